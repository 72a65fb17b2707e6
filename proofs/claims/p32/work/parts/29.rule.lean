abbrev kY_TrustDeskModel_readRule : mj_Y := (⟨"TrustDeskModel", "readRule", "()V"⟩, prog_14_method_40_code, 4, (Option.none : Option Jvm.ClassFile.FieldType))
theorem d_TrustDeskModel_readRule_0 : decode kY_TrustDeskModel_readRule.2.1 0 = .ok (.aload_n 0, 1) := by decide +kernel
theorem d_TrustDeskModel_readRule_1 : decode kY_TrustDeskModel_readRule.2.1 1 = .ok (.invokevirtual 365, 3) := by decide +kernel
abbrev kY_TrustDeskModel_ruleWord : mj_Y := (⟨"TrustDeskModel", "ruleWord", "()I"⟩, prog_14_method_39_code, 1, (Option.some Jvm.ClassFile.FieldType.int))
theorem d_TrustDeskModel_ruleWord_0 : decode kY_TrustDeskModel_ruleWord.2.1 0 = .ok (.aload_n 0, 1) := by decide +kernel
theorem d_TrustDeskModel_ruleWord_1 : decode kY_TrustDeskModel_ruleWord.2.1 1 = .ok (.ldc_w 351, 3) := by decide +kernel
theorem d_TrustDeskModel_ruleWord_4 : decode kY_TrustDeskModel_ruleWord.2.1 4 = .ok (.invokevirtual 244, 3) := by decide +kernel
def w_TrustDeskModel_isWord_s1_14_x : List Nat := []
set_option maxHeartbeats 100000000 in theorem tc_TrustDeskModel_isWord_s1_14_x {g : mj_G} {l : Launch} {d : Nat} {T0 : tm_H} {M0 : mj_M} {n0 x9 : Nat} {o0 : Nat} (h_o0 : T0 o0 = some (0, 13, 0)) (yR : rI M0 o0) (I0 : tm_I tm_FT (tm_in w_TrustDeskModel_isWord_s1_14_x) x9 T0 M0 n0 T0 M0 n0) : mj_Met g l kY_TrustDeskModel_isWord (d + 4) [.ref o0, .ref 14] M0 n0 0 0 (tm_Q tm_FT (tm_in w_TrustDeskModel_isWord_s1_14_x) x9 T0 M0 n0 (fun r _ M => ∃ v : Int32, r = some (.int v) ∧ 0 ≤ v.toInt ∧ v.toInt ≤ 1 ∧ rI M o0 ∧ (v.toInt = 1 → rv M0 o0 17 = 3) ∧ (v.toInt = 1 → rv M0 o0 17 = 3 ∧ rv M0 o0 15 - rv M0 o0 16 = 4 ∧ ra M0 o0 13 ((rv M0 o0 16).toNat + 0) = 102 ∧ ra M0 o0 13 ((rv M0 o0 16).toNat + 1) = 97 ∧ ra M0 o0 13 ((rv M0 o0 16).toNat + 2) = 105 ∧ ra M0 o0 13 ((rv M0 o0 16).toNat + 3) = 108) ∧ (v.toInt = 0 → ¬ (rv M0 o0 17 = 3 ∧ rv M0 o0 15 - rv M0 o0 16 = 4 ∧ ra M0 o0 13 ((rv M0 o0 16).toNat + 0) = 102 ∧ ra M0 o0 13 ((rv M0 o0 16).toNat + 1) = 97 ∧ ra M0 o0 13 ((rv M0 o0 16).toNat + 2) = 105 ∧ ra M0 o0 13 ((rv M0 o0 16).toNat + 3) = 108)))) := by
  refine mj_enter (by decide) (Nat.le_of_ble_eq_true rfl) ?_
  refine mv_aload_n d_TrustDeskModel_isWord_0 rfl rfl ?_
  obtain ⟨v2, q1⟩ := tm_atI I0 h_o0 (k := 17) rfl
  refine tr_getK q1 d_TrustDeskModel_isWord_1 f_TrustDeskModel_198_13 ?_
  have := tm_rv q1
  refine mv_iconst (v := 3) d_TrustDeskModel_isWord_4 (by decide) ?_
  have := mz_hi v2
  refine mv_icmp_neZ (tgt := 24) (a := v2.toInt) (b := 3) d_TrustDeskModel_isWord_5 (by decide) rfl (by decide) (fun b3 => ?_) (fun b3 => ?_)
  · refine mv_iconst (v := 0) d_TrustDeskModel_isWord_24 (by decide) ?_
    exact mv_iret d_TrustDeskModel_isWord_25 rfl (by decide) ⟨_, I0, _, rfl, by decide, by decide, yR, (fun h => absurd h (by decide)), (fun h => absurd h (by decide)), (fun _ h => by obtain ⟨h1, h2, h3, h4, h5, h6⟩ := h; have := yR.1 15 _ _ rfl; have := yR.1 16 _ _ rfl; have := yR.1 19 _ _ rfl; omega)⟩
  · refine mv_aload_n d_TrustDeskModel_isWord_8 rfl rfl ?_
    obtain ⟨v5, q4⟩ := tm_atI I0 h_o0 (k := 15) rfl
    refine tr_getK q4 d_TrustDeskModel_isWord_9 f_TrustDeskModel_192_13 ?_
    have := yR.f (k := 15) q4 rfl
    have := tm_rv q4
    refine mv_aload_n d_TrustDeskModel_isWord_12 rfl rfl ?_
    obtain ⟨v7, q6⟩ := tm_atI I0 h_o0 (k := 16) rfl
    refine tr_getK q6 d_TrustDeskModel_isWord_13 f_TrustDeskModel_195_13 ?_
    have := yR.f (k := 16) q6 rfl
    have := tm_rv q6
    refine mv_isub d_TrustDeskModel_isWord_16 ?_
    refine mv_aload_n d_TrustDeskModel_isWord_17 rfl rfl ?_
    refine mv_slenK (i := 4) (v := 4) d_TrustDeskModel_isWord_18 lV_TrustDeskModel_214 (by decide) rfl (by decide) (Nat.le_of_ble_eq_true rfl) ?_
    have b8 : (v5 - v7 : Int32).toInt = (v5.toInt - v7.toInt) := mz_sub2 rfl rfl (by have := yR.1 15 _ _ rfl; have := yR.1 16 _ _ rfl; have := yR.1 19 _ _ rfl; omega) (by have := yR.1 15 _ _ rfl; have := yR.1 16 _ _ rfl; have := yR.1 19 _ _ rfl; omega)
    have := mz_hi (v5 - v7)
    refine mv_icmp_eqZ (tgt := 26) (a := (v5 - v7).toInt) (b := 4) d_TrustDeskModel_isWord_21 (by decide) rfl (by decide) (fun b9 => ?_) (fun b9 => ?_)
    · refine mv_iconst (v := 0) d_TrustDeskModel_isWord_26 (by decide) ?_
      refine mv_istore_n (lv' := [(2, .int 0), (0, .ref o0), (1, .ref 14)]) d_TrustDeskModel_isWord_27 rfl (by decide) rfl ?_
      refine mv_iload_n d_TrustDeskModel_isWord_28 rfl rfl ?_
      refine mv_aload_n d_TrustDeskModel_isWord_29 rfl rfl ?_
      refine mv_slenK (i := 4) (v := 4) d_TrustDeskModel_isWord_30 lV_TrustDeskModel_214 (by decide) rfl (by decide) (Nat.le_of_ble_eq_true rfl) ?_
      refine mv_icmp_ge_f (tgt := 63) d_TrustDeskModel_isWord_33 (by decide) (by decide) ?_
      refine mv_aload_n d_TrustDeskModel_isWord_36 rfl rfl ?_
      obtain ⟨a11, q10, t_a11⟩ := tm_atR I0 h_o0 (k := 13) rfl
      refine tr_getK q10 d_TrustDeskModel_isWord_37 f_TrustDeskModel_44_13 ?_
      refine mv_aload_n d_TrustDeskModel_isWord_40 rfl rfl ?_
      refine tr_getK (k := 16) q6 d_TrustDeskModel_isWord_41 f_TrustDeskModel_195_13 ?_
      refine mv_iload_n d_TrustDeskModel_isWord_44 rfl rfl ?_
      refine mv_iadd d_TrustDeskModel_isWord_45 ?_
      have b12 : (v7 + 0 : Int32).toInt = (v7.toInt + 0) := mz_add2 rfl (by decide) (by have := yR.1 15 _ _ rfl; have := yR.1 16 _ _ rfl; have := yR.1 19 _ _ rfl; omega) (by have := yR.1 15 _ _ rfl; have := yR.1 16 _ _ rfl; have := yR.1 19 _ _ rfl; omega)
      refine tr_baldR (o := o0) (k := 13) I0 q10 t_a11 (by decide) d_TrustDeskModel_isWord_46 (vp_in_iff.mpr (by have := yR.1 15 _ _ rfl; have := yR.1 16 _ _ rfl; have := yR.1 19 _ _ rfl; omega)) (fun v13 e14 => ?_)
      have := yR.a (k := 13) rfl ((v7 + 0) : Int32).toNatClampNeg
      have h15 : (v7 + 0).toNatClampNeg = (rv M0 o0 16).toNat + 0 := by have := mz_nat9 (i := (v7 + 0)) (by have := yR.1 15 _ _ rfl; have := yR.1 16 _ _ rfl; have := yR.1 19 _ _ rfl; omega); have := yR.1 15 _ _ rfl; have := yR.1 16 _ _ rfl; have := yR.1 19 _ _ rfl; omega
      have : v13.toInt = ra M0 o0 13 ((rv M0 o0 16).toNat + 0) := by rw [e14, h15]
      refine mv_aload_n d_TrustDeskModel_isWord_47 rfl rfl ?_
      refine mv_iload_n d_TrustDeskModel_isWord_48 rfl rfl ?_
      refine mv_schC (i := 4) (v := 102) d_TrustDeskModel_isWord_49 lV_TrustDeskModel_220 (by decide) rfl (by decide) (by decide) (Nat.le_of_ble_eq_true rfl) (by decide) ?_
      have := mz_hi v13
      refine mv_icmp_eqZ (tgt := 57) (a := v13.toInt) (b := 102) d_TrustDeskModel_isWord_52 (by decide) rfl (by decide) (fun b16 => ?_) (fun b16 => ?_)
      · refine mv_iinc (v := 1) (lv' := [(2, .int 1), (0, .ref o0), (1, .ref 14)]) d_TrustDeskModel_isWord_57 rfl (by decide) (by decide) rfl ?_
        refine mv_goto (tgt := 28) d_TrustDeskModel_isWord_60 (by decide) ?_
        refine mv_iload_n d_TrustDeskModel_isWord_28 rfl rfl ?_
        refine mv_aload_n d_TrustDeskModel_isWord_29 rfl rfl ?_
        refine mv_slenK (i := 4) (v := 4) d_TrustDeskModel_isWord_30 lV_TrustDeskModel_214 (by decide) rfl (by decide) (Nat.le_of_ble_eq_true rfl) ?_
        refine mv_icmp_ge_f (tgt := 63) d_TrustDeskModel_isWord_33 (by decide) (by decide) ?_
        refine mv_aload_n d_TrustDeskModel_isWord_36 rfl rfl ?_
        refine tr_getK (k := 13) q10 d_TrustDeskModel_isWord_37 f_TrustDeskModel_44_13 ?_
        refine mv_aload_n d_TrustDeskModel_isWord_40 rfl rfl ?_
        refine tr_getK (k := 16) q6 d_TrustDeskModel_isWord_41 f_TrustDeskModel_195_13 ?_
        refine mv_iload_n d_TrustDeskModel_isWord_44 rfl rfl ?_
        refine mv_iadd d_TrustDeskModel_isWord_45 ?_
        have b17 : (v7 + 1 : Int32).toInt = (v7.toInt + 1) := mz_add2 rfl (by decide) (by have := yR.1 15 _ _ rfl; have := yR.1 16 _ _ rfl; have := yR.1 19 _ _ rfl; omega) (by have := yR.1 15 _ _ rfl; have := yR.1 16 _ _ rfl; have := yR.1 19 _ _ rfl; omega)
        refine tr_baldR (o := o0) (k := 13) I0 q10 t_a11 (by decide) d_TrustDeskModel_isWord_46 (vp_in_iff.mpr (by have := yR.1 15 _ _ rfl; have := yR.1 16 _ _ rfl; have := yR.1 19 _ _ rfl; omega)) (fun v18 e19 => ?_)
        have := yR.a (k := 13) rfl ((v7 + 1) : Int32).toNatClampNeg
        have h20 : (v7 + 1).toNatClampNeg = (rv M0 o0 16).toNat + 1 := by have := mz_nat9 (i := (v7 + 1)) (by have := yR.1 15 _ _ rfl; have := yR.1 16 _ _ rfl; have := yR.1 19 _ _ rfl; omega); have := yR.1 15 _ _ rfl; have := yR.1 16 _ _ rfl; have := yR.1 19 _ _ rfl; omega
        have : v18.toInt = ra M0 o0 13 ((rv M0 o0 16).toNat + 1) := by rw [e19, h20]
        refine mv_aload_n d_TrustDeskModel_isWord_47 rfl rfl ?_
        refine mv_iload_n d_TrustDeskModel_isWord_48 rfl rfl ?_
        refine mv_schC (i := 4) (v := 97) d_TrustDeskModel_isWord_49 lV_TrustDeskModel_220 (by decide) rfl (by decide) (by decide) (Nat.le_of_ble_eq_true rfl) (by decide) ?_
        have := mz_hi v18
        refine mv_icmp_eqZ (tgt := 57) (a := v18.toInt) (b := 97) d_TrustDeskModel_isWord_52 (by decide) rfl (by decide) (fun b21 => ?_) (fun b21 => ?_)
        · refine mv_iinc (v := 2) (lv' := [(2, .int 2), (0, .ref o0), (1, .ref 14)]) d_TrustDeskModel_isWord_57 rfl (by decide) (by decide) rfl ?_
          refine mv_goto (tgt := 28) d_TrustDeskModel_isWord_60 (by decide) ?_
          refine mv_iload_n d_TrustDeskModel_isWord_28 rfl rfl ?_
          refine mv_aload_n d_TrustDeskModel_isWord_29 rfl rfl ?_
          refine mv_slenK (i := 4) (v := 4) d_TrustDeskModel_isWord_30 lV_TrustDeskModel_214 (by decide) rfl (by decide) (Nat.le_of_ble_eq_true rfl) ?_
          refine mv_icmp_ge_f (tgt := 63) d_TrustDeskModel_isWord_33 (by decide) (by decide) ?_
          refine mv_aload_n d_TrustDeskModel_isWord_36 rfl rfl ?_
          refine tr_getK (k := 13) q10 d_TrustDeskModel_isWord_37 f_TrustDeskModel_44_13 ?_
          refine mv_aload_n d_TrustDeskModel_isWord_40 rfl rfl ?_
          refine tr_getK (k := 16) q6 d_TrustDeskModel_isWord_41 f_TrustDeskModel_195_13 ?_
          refine mv_iload_n d_TrustDeskModel_isWord_44 rfl rfl ?_
          refine mv_iadd d_TrustDeskModel_isWord_45 ?_
          have b22 : (v7 + 2 : Int32).toInt = (v7.toInt + 2) := mz_add2 rfl (by decide) (by have := yR.1 15 _ _ rfl; have := yR.1 16 _ _ rfl; have := yR.1 19 _ _ rfl; omega) (by have := yR.1 15 _ _ rfl; have := yR.1 16 _ _ rfl; have := yR.1 19 _ _ rfl; omega)
          refine tr_baldR (o := o0) (k := 13) I0 q10 t_a11 (by decide) d_TrustDeskModel_isWord_46 (vp_in_iff.mpr (by have := yR.1 15 _ _ rfl; have := yR.1 16 _ _ rfl; have := yR.1 19 _ _ rfl; omega)) (fun v23 e24 => ?_)
          have := yR.a (k := 13) rfl ((v7 + 2) : Int32).toNatClampNeg
          have h25 : (v7 + 2).toNatClampNeg = (rv M0 o0 16).toNat + 2 := by have := mz_nat9 (i := (v7 + 2)) (by have := yR.1 15 _ _ rfl; have := yR.1 16 _ _ rfl; have := yR.1 19 _ _ rfl; omega); have := yR.1 15 _ _ rfl; have := yR.1 16 _ _ rfl; have := yR.1 19 _ _ rfl; omega
          have : v23.toInt = ra M0 o0 13 ((rv M0 o0 16).toNat + 2) := by rw [e24, h25]
          refine mv_aload_n d_TrustDeskModel_isWord_47 rfl rfl ?_
          refine mv_iload_n d_TrustDeskModel_isWord_48 rfl rfl ?_
          refine mv_schC (i := 4) (v := 105) d_TrustDeskModel_isWord_49 lV_TrustDeskModel_220 (by decide) rfl (by decide) (by decide) (Nat.le_of_ble_eq_true rfl) (by decide) ?_
          have := mz_hi v23
          refine mv_icmp_eqZ (tgt := 57) (a := v23.toInt) (b := 105) d_TrustDeskModel_isWord_52 (by decide) rfl (by decide) (fun b26 => ?_) (fun b26 => ?_)
          · refine mv_iinc (v := 3) (lv' := [(2, .int 3), (0, .ref o0), (1, .ref 14)]) d_TrustDeskModel_isWord_57 rfl (by decide) (by decide) rfl ?_
            refine mv_goto (tgt := 28) d_TrustDeskModel_isWord_60 (by decide) ?_
            refine mv_iload_n d_TrustDeskModel_isWord_28 rfl rfl ?_
            refine mv_aload_n d_TrustDeskModel_isWord_29 rfl rfl ?_
            refine mv_slenK (i := 4) (v := 4) d_TrustDeskModel_isWord_30 lV_TrustDeskModel_214 (by decide) rfl (by decide) (Nat.le_of_ble_eq_true rfl) ?_
            refine mv_icmp_ge_f (tgt := 63) d_TrustDeskModel_isWord_33 (by decide) (by decide) ?_
            refine mv_aload_n d_TrustDeskModel_isWord_36 rfl rfl ?_
            refine tr_getK (k := 13) q10 d_TrustDeskModel_isWord_37 f_TrustDeskModel_44_13 ?_
            refine mv_aload_n d_TrustDeskModel_isWord_40 rfl rfl ?_
            refine tr_getK (k := 16) q6 d_TrustDeskModel_isWord_41 f_TrustDeskModel_195_13 ?_
            refine mv_iload_n d_TrustDeskModel_isWord_44 rfl rfl ?_
            refine mv_iadd d_TrustDeskModel_isWord_45 ?_
            have b27 : (v7 + 3 : Int32).toInt = (v7.toInt + 3) := mz_add2 rfl (by decide) (by have := yR.1 15 _ _ rfl; have := yR.1 16 _ _ rfl; have := yR.1 19 _ _ rfl; omega) (by have := yR.1 15 _ _ rfl; have := yR.1 16 _ _ rfl; have := yR.1 19 _ _ rfl; omega)
            refine tr_baldR (o := o0) (k := 13) I0 q10 t_a11 (by decide) d_TrustDeskModel_isWord_46 (vp_in_iff.mpr (by have := yR.1 15 _ _ rfl; have := yR.1 16 _ _ rfl; have := yR.1 19 _ _ rfl; omega)) (fun v28 e29 => ?_)
            have := yR.a (k := 13) rfl ((v7 + 3) : Int32).toNatClampNeg
            have h30 : (v7 + 3).toNatClampNeg = (rv M0 o0 16).toNat + 3 := by have := mz_nat9 (i := (v7 + 3)) (by have := yR.1 15 _ _ rfl; have := yR.1 16 _ _ rfl; have := yR.1 19 _ _ rfl; omega); have := yR.1 15 _ _ rfl; have := yR.1 16 _ _ rfl; have := yR.1 19 _ _ rfl; omega
            have : v28.toInt = ra M0 o0 13 ((rv M0 o0 16).toNat + 3) := by rw [e29, h30]
            refine mv_aload_n d_TrustDeskModel_isWord_47 rfl rfl ?_
            refine mv_iload_n d_TrustDeskModel_isWord_48 rfl rfl ?_
            refine mv_schC (i := 4) (v := 108) d_TrustDeskModel_isWord_49 lV_TrustDeskModel_220 (by decide) rfl (by decide) (by decide) (Nat.le_of_ble_eq_true rfl) (by decide) ?_
            have := mz_hi v28
            refine mv_icmp_eqZ (tgt := 57) (a := v28.toInt) (b := 108) d_TrustDeskModel_isWord_52 (by decide) rfl (by decide) (fun b31 => ?_) (fun b31 => ?_)
            · refine mv_iinc (v := 4) (lv' := [(2, .int 4), (0, .ref o0), (1, .ref 14)]) d_TrustDeskModel_isWord_57 rfl (by decide) (by decide) rfl ?_
              refine mv_goto (tgt := 28) d_TrustDeskModel_isWord_60 (by decide) ?_
              refine mv_iload_n d_TrustDeskModel_isWord_28 rfl rfl ?_
              refine mv_aload_n d_TrustDeskModel_isWord_29 rfl rfl ?_
              refine mv_slenK (i := 4) (v := 4) d_TrustDeskModel_isWord_30 lV_TrustDeskModel_214 (by decide) rfl (by decide) (Nat.le_of_ble_eq_true rfl) ?_
              refine mv_icmp_ge_t (tgt := 63) d_TrustDeskModel_isWord_33 (by decide) (by decide) ?_
              refine mv_iconst (v := 1) d_TrustDeskModel_isWord_63 (by decide) ?_
              exact mv_iret d_TrustDeskModel_isWord_64 rfl (by decide) ⟨_, I0, _, rfl, by decide, by decide, yR, (fun _ => by have := yR.1 15 _ _ rfl; have := yR.1 16 _ _ rfl; have := yR.1 19 _ _ rfl; omega), (fun _ => ⟨by have := yR.1 15 _ _ rfl; have := yR.1 16 _ _ rfl; have := yR.1 19 _ _ rfl; omega, by have := yR.1 15 _ _ rfl; have := yR.1 16 _ _ rfl; have := yR.1 19 _ _ rfl; omega, by have := yR.1 15 _ _ rfl; have := yR.1 16 _ _ rfl; have := yR.1 19 _ _ rfl; omega, by have := yR.1 15 _ _ rfl; have := yR.1 16 _ _ rfl; have := yR.1 19 _ _ rfl; omega, by have := yR.1 15 _ _ rfl; have := yR.1 16 _ _ rfl; have := yR.1 19 _ _ rfl; omega, by have := yR.1 15 _ _ rfl; have := yR.1 16 _ _ rfl; have := yR.1 19 _ _ rfl; omega⟩), (fun h => absurd h (by decide))⟩
            · refine mv_iconst (v := 0) d_TrustDeskModel_isWord_55 (by decide) ?_
              exact mv_iret d_TrustDeskModel_isWord_56 rfl (by decide) ⟨_, I0, _, rfl, by decide, by decide, yR, (fun h => absurd h (by decide)), (fun h => absurd h (by decide)), (fun _ h => by obtain ⟨h1, h2, h3, h4, h5, h6⟩ := h; have := yR.1 15 _ _ rfl; have := yR.1 16 _ _ rfl; have := yR.1 19 _ _ rfl; omega)⟩
          · refine mv_iconst (v := 0) d_TrustDeskModel_isWord_55 (by decide) ?_
            exact mv_iret d_TrustDeskModel_isWord_56 rfl (by decide) ⟨_, I0, _, rfl, by decide, by decide, yR, (fun h => absurd h (by decide)), (fun h => absurd h (by decide)), (fun _ h => by obtain ⟨h1, h2, h3, h4, h5, h6⟩ := h; have := yR.1 15 _ _ rfl; have := yR.1 16 _ _ rfl; have := yR.1 19 _ _ rfl; omega)⟩
        · refine mv_iconst (v := 0) d_TrustDeskModel_isWord_55 (by decide) ?_
          exact mv_iret d_TrustDeskModel_isWord_56 rfl (by decide) ⟨_, I0, _, rfl, by decide, by decide, yR, (fun h => absurd h (by decide)), (fun h => absurd h (by decide)), (fun _ h => by obtain ⟨h1, h2, h3, h4, h5, h6⟩ := h; have := yR.1 15 _ _ rfl; have := yR.1 16 _ _ rfl; have := yR.1 19 _ _ rfl; omega)⟩
      · refine mv_iconst (v := 0) d_TrustDeskModel_isWord_55 (by decide) ?_
        exact mv_iret d_TrustDeskModel_isWord_56 rfl (by decide) ⟨_, I0, _, rfl, by decide, by decide, yR, (fun h => absurd h (by decide)), (fun h => absurd h (by decide)), (fun _ h => by obtain ⟨h1, h2, h3, h4, h5, h6⟩ := h; have := yR.1 15 _ _ rfl; have := yR.1 16 _ _ rfl; have := yR.1 19 _ _ rfl; omega)⟩
    · refine mv_iconst (v := 0) d_TrustDeskModel_isWord_24 (by decide) ?_
      exact mv_iret d_TrustDeskModel_isWord_25 rfl (by decide) ⟨_, I0, _, rfl, by decide, by decide, yR, (fun h => absurd h (by decide)), (fun h => absurd h (by decide)), (fun _ h => by obtain ⟨h1, h2, h3, h4, h5, h6⟩ := h; have := yR.1 15 _ _ rfl; have := yR.1 16 _ _ rfl; have := yR.1 19 _ _ rfl; omega)⟩
theorem d_TrustDeskModel_ruleWord_7 : decode kY_TrustDeskModel_ruleWord.2.1 7 = .ok (.ifCond .eq 7, 3) := by decide +kernel
theorem d_TrustDeskModel_ruleWord_14 : decode kY_TrustDeskModel_ruleWord.2.1 14 = .ok (.aload_n 0, 1) := by decide +kernel
theorem d_TrustDeskModel_ruleWord_15 : decode kY_TrustDeskModel_ruleWord.2.1 15 = .ok (.ldc_w 353, 3) := by decide +kernel
theorem d_TrustDeskModel_ruleWord_18 : decode kY_TrustDeskModel_ruleWord.2.1 18 = .ok (.invokevirtual 244, 3) := by decide +kernel
def w_TrustDeskModel_isWord_s1_15_x : List Nat := []
set_option maxHeartbeats 100000000 in theorem tc_TrustDeskModel_isWord_s1_15_x {g : mj_G} {l : Launch} {d : Nat} {T0 : tm_H} {M0 : mj_M} {n0 x9 : Nat} {o0 : Nat} (h_o0 : T0 o0 = some (0, 13, 0)) (yR : rI M0 o0) (I0 : tm_I tm_FT (tm_in w_TrustDeskModel_isWord_s1_15_x) x9 T0 M0 n0 T0 M0 n0) : mj_Met g l kY_TrustDeskModel_isWord (d + 4) [.ref o0, .ref 15] M0 n0 0 0 (tm_Q tm_FT (tm_in w_TrustDeskModel_isWord_s1_15_x) x9 T0 M0 n0 (fun r _ M => ∃ v : Int32, r = some (.int v) ∧ 0 ≤ v.toInt ∧ v.toInt ≤ 1 ∧ rI M o0 ∧ (v.toInt = 1 → rv M0 o0 17 = 3) ∧ (v.toInt = 1 → rv M0 o0 17 = 3 ∧ rv M0 o0 15 - rv M0 o0 16 = 4 ∧ ra M0 o0 13 ((rv M0 o0 16).toNat + 0) = 107 ∧ ra M0 o0 13 ((rv M0 o0 16).toNat + 1) = 101 ∧ ra M0 o0 13 ((rv M0 o0 16).toNat + 2) = 101 ∧ ra M0 o0 13 ((rv M0 o0 16).toNat + 3) = 112) ∧ (v.toInt = 0 → ¬ (rv M0 o0 17 = 3 ∧ rv M0 o0 15 - rv M0 o0 16 = 4 ∧ ra M0 o0 13 ((rv M0 o0 16).toNat + 0) = 107 ∧ ra M0 o0 13 ((rv M0 o0 16).toNat + 1) = 101 ∧ ra M0 o0 13 ((rv M0 o0 16).toNat + 2) = 101 ∧ ra M0 o0 13 ((rv M0 o0 16).toNat + 3) = 112)))) := by
  refine mj_enter (by decide) (Nat.le_of_ble_eq_true rfl) ?_
  refine mv_aload_n d_TrustDeskModel_isWord_0 rfl rfl ?_
  obtain ⟨v2, q1⟩ := tm_atI I0 h_o0 (k := 17) rfl
  refine tr_getK q1 d_TrustDeskModel_isWord_1 f_TrustDeskModel_198_13 ?_
  have := tm_rv q1
  refine mv_iconst (v := 3) d_TrustDeskModel_isWord_4 (by decide) ?_
  have := mz_hi v2
  refine mv_icmp_neZ (tgt := 24) (a := v2.toInt) (b := 3) d_TrustDeskModel_isWord_5 (by decide) rfl (by decide) (fun b3 => ?_) (fun b3 => ?_)
  · refine mv_iconst (v := 0) d_TrustDeskModel_isWord_24 (by decide) ?_
    exact mv_iret d_TrustDeskModel_isWord_25 rfl (by decide) ⟨_, I0, _, rfl, by decide, by decide, yR, (fun h => absurd h (by decide)), (fun h => absurd h (by decide)), (fun _ h => by obtain ⟨h1, h2, h3, h4, h5, h6⟩ := h; have := yR.1 15 _ _ rfl; have := yR.1 16 _ _ rfl; have := yR.1 19 _ _ rfl; omega)⟩
  · refine mv_aload_n d_TrustDeskModel_isWord_8 rfl rfl ?_
    obtain ⟨v5, q4⟩ := tm_atI I0 h_o0 (k := 15) rfl
    refine tr_getK q4 d_TrustDeskModel_isWord_9 f_TrustDeskModel_192_13 ?_
    have := yR.f (k := 15) q4 rfl
    have := tm_rv q4
    refine mv_aload_n d_TrustDeskModel_isWord_12 rfl rfl ?_
    obtain ⟨v7, q6⟩ := tm_atI I0 h_o0 (k := 16) rfl
    refine tr_getK q6 d_TrustDeskModel_isWord_13 f_TrustDeskModel_195_13 ?_
    have := yR.f (k := 16) q6 rfl
    have := tm_rv q6
    refine mv_isub d_TrustDeskModel_isWord_16 ?_
    refine mv_aload_n d_TrustDeskModel_isWord_17 rfl rfl ?_
    refine mv_slenK (i := 5) (v := 4) d_TrustDeskModel_isWord_18 lV_TrustDeskModel_214 (by decide) rfl (by decide) (Nat.le_of_ble_eq_true rfl) ?_
    have b8 : (v5 - v7 : Int32).toInt = (v5.toInt - v7.toInt) := mz_sub2 rfl rfl (by have := yR.1 15 _ _ rfl; have := yR.1 16 _ _ rfl; have := yR.1 19 _ _ rfl; omega) (by have := yR.1 15 _ _ rfl; have := yR.1 16 _ _ rfl; have := yR.1 19 _ _ rfl; omega)
    have := mz_hi (v5 - v7)
    refine mv_icmp_eqZ (tgt := 26) (a := (v5 - v7).toInt) (b := 4) d_TrustDeskModel_isWord_21 (by decide) rfl (by decide) (fun b9 => ?_) (fun b9 => ?_)
    · refine mv_iconst (v := 0) d_TrustDeskModel_isWord_26 (by decide) ?_
      refine mv_istore_n (lv' := [(2, .int 0), (0, .ref o0), (1, .ref 15)]) d_TrustDeskModel_isWord_27 rfl (by decide) rfl ?_
      refine mv_iload_n d_TrustDeskModel_isWord_28 rfl rfl ?_
      refine mv_aload_n d_TrustDeskModel_isWord_29 rfl rfl ?_
      refine mv_slenK (i := 5) (v := 4) d_TrustDeskModel_isWord_30 lV_TrustDeskModel_214 (by decide) rfl (by decide) (Nat.le_of_ble_eq_true rfl) ?_
      refine mv_icmp_ge_f (tgt := 63) d_TrustDeskModel_isWord_33 (by decide) (by decide) ?_
      refine mv_aload_n d_TrustDeskModel_isWord_36 rfl rfl ?_
      obtain ⟨a11, q10, t_a11⟩ := tm_atR I0 h_o0 (k := 13) rfl
      refine tr_getK q10 d_TrustDeskModel_isWord_37 f_TrustDeskModel_44_13 ?_
      refine mv_aload_n d_TrustDeskModel_isWord_40 rfl rfl ?_
      refine tr_getK (k := 16) q6 d_TrustDeskModel_isWord_41 f_TrustDeskModel_195_13 ?_
      refine mv_iload_n d_TrustDeskModel_isWord_44 rfl rfl ?_
      refine mv_iadd d_TrustDeskModel_isWord_45 ?_
      have b12 : (v7 + 0 : Int32).toInt = (v7.toInt + 0) := mz_add2 rfl (by decide) (by have := yR.1 15 _ _ rfl; have := yR.1 16 _ _ rfl; have := yR.1 19 _ _ rfl; omega) (by have := yR.1 15 _ _ rfl; have := yR.1 16 _ _ rfl; have := yR.1 19 _ _ rfl; omega)
      refine tr_baldR (o := o0) (k := 13) I0 q10 t_a11 (by decide) d_TrustDeskModel_isWord_46 (vp_in_iff.mpr (by have := yR.1 15 _ _ rfl; have := yR.1 16 _ _ rfl; have := yR.1 19 _ _ rfl; omega)) (fun v13 e14 => ?_)
      have := yR.a (k := 13) rfl ((v7 + 0) : Int32).toNatClampNeg
      have h15 : (v7 + 0).toNatClampNeg = (rv M0 o0 16).toNat + 0 := by have := mz_nat9 (i := (v7 + 0)) (by have := yR.1 15 _ _ rfl; have := yR.1 16 _ _ rfl; have := yR.1 19 _ _ rfl; omega); have := yR.1 15 _ _ rfl; have := yR.1 16 _ _ rfl; have := yR.1 19 _ _ rfl; omega
      have : v13.toInt = ra M0 o0 13 ((rv M0 o0 16).toNat + 0) := by rw [e14, h15]
      refine mv_aload_n d_TrustDeskModel_isWord_47 rfl rfl ?_
      refine mv_iload_n d_TrustDeskModel_isWord_48 rfl rfl ?_
      refine mv_schC (i := 5) (v := 107) d_TrustDeskModel_isWord_49 lV_TrustDeskModel_220 (by decide) rfl (by decide) (by decide) (Nat.le_of_ble_eq_true rfl) (by decide) ?_
      have := mz_hi v13
      refine mv_icmp_eqZ (tgt := 57) (a := v13.toInt) (b := 107) d_TrustDeskModel_isWord_52 (by decide) rfl (by decide) (fun b16 => ?_) (fun b16 => ?_)
      · refine mv_iinc (v := 1) (lv' := [(2, .int 1), (0, .ref o0), (1, .ref 15)]) d_TrustDeskModel_isWord_57 rfl (by decide) (by decide) rfl ?_
        refine mv_goto (tgt := 28) d_TrustDeskModel_isWord_60 (by decide) ?_
        refine mv_iload_n d_TrustDeskModel_isWord_28 rfl rfl ?_
        refine mv_aload_n d_TrustDeskModel_isWord_29 rfl rfl ?_
        refine mv_slenK (i := 5) (v := 4) d_TrustDeskModel_isWord_30 lV_TrustDeskModel_214 (by decide) rfl (by decide) (Nat.le_of_ble_eq_true rfl) ?_
        refine mv_icmp_ge_f (tgt := 63) d_TrustDeskModel_isWord_33 (by decide) (by decide) ?_
        refine mv_aload_n d_TrustDeskModel_isWord_36 rfl rfl ?_
        refine tr_getK (k := 13) q10 d_TrustDeskModel_isWord_37 f_TrustDeskModel_44_13 ?_
        refine mv_aload_n d_TrustDeskModel_isWord_40 rfl rfl ?_
        refine tr_getK (k := 16) q6 d_TrustDeskModel_isWord_41 f_TrustDeskModel_195_13 ?_
        refine mv_iload_n d_TrustDeskModel_isWord_44 rfl rfl ?_
        refine mv_iadd d_TrustDeskModel_isWord_45 ?_
        have b17 : (v7 + 1 : Int32).toInt = (v7.toInt + 1) := mz_add2 rfl (by decide) (by have := yR.1 15 _ _ rfl; have := yR.1 16 _ _ rfl; have := yR.1 19 _ _ rfl; omega) (by have := yR.1 15 _ _ rfl; have := yR.1 16 _ _ rfl; have := yR.1 19 _ _ rfl; omega)
        refine tr_baldR (o := o0) (k := 13) I0 q10 t_a11 (by decide) d_TrustDeskModel_isWord_46 (vp_in_iff.mpr (by have := yR.1 15 _ _ rfl; have := yR.1 16 _ _ rfl; have := yR.1 19 _ _ rfl; omega)) (fun v18 e19 => ?_)
        have := yR.a (k := 13) rfl ((v7 + 1) : Int32).toNatClampNeg
        have h20 : (v7 + 1).toNatClampNeg = (rv M0 o0 16).toNat + 1 := by have := mz_nat9 (i := (v7 + 1)) (by have := yR.1 15 _ _ rfl; have := yR.1 16 _ _ rfl; have := yR.1 19 _ _ rfl; omega); have := yR.1 15 _ _ rfl; have := yR.1 16 _ _ rfl; have := yR.1 19 _ _ rfl; omega
        have : v18.toInt = ra M0 o0 13 ((rv M0 o0 16).toNat + 1) := by rw [e19, h20]
        refine mv_aload_n d_TrustDeskModel_isWord_47 rfl rfl ?_
        refine mv_iload_n d_TrustDeskModel_isWord_48 rfl rfl ?_
        refine mv_schC (i := 5) (v := 101) d_TrustDeskModel_isWord_49 lV_TrustDeskModel_220 (by decide) rfl (by decide) (by decide) (Nat.le_of_ble_eq_true rfl) (by decide) ?_
        have := mz_hi v18
        refine mv_icmp_eqZ (tgt := 57) (a := v18.toInt) (b := 101) d_TrustDeskModel_isWord_52 (by decide) rfl (by decide) (fun b21 => ?_) (fun b21 => ?_)
        · refine mv_iinc (v := 2) (lv' := [(2, .int 2), (0, .ref o0), (1, .ref 15)]) d_TrustDeskModel_isWord_57 rfl (by decide) (by decide) rfl ?_
          refine mv_goto (tgt := 28) d_TrustDeskModel_isWord_60 (by decide) ?_
          refine mv_iload_n d_TrustDeskModel_isWord_28 rfl rfl ?_
          refine mv_aload_n d_TrustDeskModel_isWord_29 rfl rfl ?_
          refine mv_slenK (i := 5) (v := 4) d_TrustDeskModel_isWord_30 lV_TrustDeskModel_214 (by decide) rfl (by decide) (Nat.le_of_ble_eq_true rfl) ?_
          refine mv_icmp_ge_f (tgt := 63) d_TrustDeskModel_isWord_33 (by decide) (by decide) ?_
          refine mv_aload_n d_TrustDeskModel_isWord_36 rfl rfl ?_
          refine tr_getK (k := 13) q10 d_TrustDeskModel_isWord_37 f_TrustDeskModel_44_13 ?_
          refine mv_aload_n d_TrustDeskModel_isWord_40 rfl rfl ?_
          refine tr_getK (k := 16) q6 d_TrustDeskModel_isWord_41 f_TrustDeskModel_195_13 ?_
          refine mv_iload_n d_TrustDeskModel_isWord_44 rfl rfl ?_
          refine mv_iadd d_TrustDeskModel_isWord_45 ?_
          have b22 : (v7 + 2 : Int32).toInt = (v7.toInt + 2) := mz_add2 rfl (by decide) (by have := yR.1 15 _ _ rfl; have := yR.1 16 _ _ rfl; have := yR.1 19 _ _ rfl; omega) (by have := yR.1 15 _ _ rfl; have := yR.1 16 _ _ rfl; have := yR.1 19 _ _ rfl; omega)
          refine tr_baldR (o := o0) (k := 13) I0 q10 t_a11 (by decide) d_TrustDeskModel_isWord_46 (vp_in_iff.mpr (by have := yR.1 15 _ _ rfl; have := yR.1 16 _ _ rfl; have := yR.1 19 _ _ rfl; omega)) (fun v23 e24 => ?_)
          have := yR.a (k := 13) rfl ((v7 + 2) : Int32).toNatClampNeg
          have h25 : (v7 + 2).toNatClampNeg = (rv M0 o0 16).toNat + 2 := by have := mz_nat9 (i := (v7 + 2)) (by have := yR.1 15 _ _ rfl; have := yR.1 16 _ _ rfl; have := yR.1 19 _ _ rfl; omega); have := yR.1 15 _ _ rfl; have := yR.1 16 _ _ rfl; have := yR.1 19 _ _ rfl; omega
          have : v23.toInt = ra M0 o0 13 ((rv M0 o0 16).toNat + 2) := by rw [e24, h25]
          refine mv_aload_n d_TrustDeskModel_isWord_47 rfl rfl ?_
          refine mv_iload_n d_TrustDeskModel_isWord_48 rfl rfl ?_
          refine mv_schC (i := 5) (v := 101) d_TrustDeskModel_isWord_49 lV_TrustDeskModel_220 (by decide) rfl (by decide) (by decide) (Nat.le_of_ble_eq_true rfl) (by decide) ?_
          have := mz_hi v23
          refine mv_icmp_eqZ (tgt := 57) (a := v23.toInt) (b := 101) d_TrustDeskModel_isWord_52 (by decide) rfl (by decide) (fun b26 => ?_) (fun b26 => ?_)
          · refine mv_iinc (v := 3) (lv' := [(2, .int 3), (0, .ref o0), (1, .ref 15)]) d_TrustDeskModel_isWord_57 rfl (by decide) (by decide) rfl ?_
            refine mv_goto (tgt := 28) d_TrustDeskModel_isWord_60 (by decide) ?_
            refine mv_iload_n d_TrustDeskModel_isWord_28 rfl rfl ?_
            refine mv_aload_n d_TrustDeskModel_isWord_29 rfl rfl ?_
            refine mv_slenK (i := 5) (v := 4) d_TrustDeskModel_isWord_30 lV_TrustDeskModel_214 (by decide) rfl (by decide) (Nat.le_of_ble_eq_true rfl) ?_
            refine mv_icmp_ge_f (tgt := 63) d_TrustDeskModel_isWord_33 (by decide) (by decide) ?_
            refine mv_aload_n d_TrustDeskModel_isWord_36 rfl rfl ?_
            refine tr_getK (k := 13) q10 d_TrustDeskModel_isWord_37 f_TrustDeskModel_44_13 ?_
            refine mv_aload_n d_TrustDeskModel_isWord_40 rfl rfl ?_
            refine tr_getK (k := 16) q6 d_TrustDeskModel_isWord_41 f_TrustDeskModel_195_13 ?_
            refine mv_iload_n d_TrustDeskModel_isWord_44 rfl rfl ?_
            refine mv_iadd d_TrustDeskModel_isWord_45 ?_
            have b27 : (v7 + 3 : Int32).toInt = (v7.toInt + 3) := mz_add2 rfl (by decide) (by have := yR.1 15 _ _ rfl; have := yR.1 16 _ _ rfl; have := yR.1 19 _ _ rfl; omega) (by have := yR.1 15 _ _ rfl; have := yR.1 16 _ _ rfl; have := yR.1 19 _ _ rfl; omega)
            refine tr_baldR (o := o0) (k := 13) I0 q10 t_a11 (by decide) d_TrustDeskModel_isWord_46 (vp_in_iff.mpr (by have := yR.1 15 _ _ rfl; have := yR.1 16 _ _ rfl; have := yR.1 19 _ _ rfl; omega)) (fun v28 e29 => ?_)
            have := yR.a (k := 13) rfl ((v7 + 3) : Int32).toNatClampNeg
            have h30 : (v7 + 3).toNatClampNeg = (rv M0 o0 16).toNat + 3 := by have := mz_nat9 (i := (v7 + 3)) (by have := yR.1 15 _ _ rfl; have := yR.1 16 _ _ rfl; have := yR.1 19 _ _ rfl; omega); have := yR.1 15 _ _ rfl; have := yR.1 16 _ _ rfl; have := yR.1 19 _ _ rfl; omega
            have : v28.toInt = ra M0 o0 13 ((rv M0 o0 16).toNat + 3) := by rw [e29, h30]
            refine mv_aload_n d_TrustDeskModel_isWord_47 rfl rfl ?_
            refine mv_iload_n d_TrustDeskModel_isWord_48 rfl rfl ?_
            refine mv_schC (i := 5) (v := 112) d_TrustDeskModel_isWord_49 lV_TrustDeskModel_220 (by decide) rfl (by decide) (by decide) (Nat.le_of_ble_eq_true rfl) (by decide) ?_
            have := mz_hi v28
            refine mv_icmp_eqZ (tgt := 57) (a := v28.toInt) (b := 112) d_TrustDeskModel_isWord_52 (by decide) rfl (by decide) (fun b31 => ?_) (fun b31 => ?_)
            · refine mv_iinc (v := 4) (lv' := [(2, .int 4), (0, .ref o0), (1, .ref 15)]) d_TrustDeskModel_isWord_57 rfl (by decide) (by decide) rfl ?_
              refine mv_goto (tgt := 28) d_TrustDeskModel_isWord_60 (by decide) ?_
              refine mv_iload_n d_TrustDeskModel_isWord_28 rfl rfl ?_
              refine mv_aload_n d_TrustDeskModel_isWord_29 rfl rfl ?_
              refine mv_slenK (i := 5) (v := 4) d_TrustDeskModel_isWord_30 lV_TrustDeskModel_214 (by decide) rfl (by decide) (Nat.le_of_ble_eq_true rfl) ?_
              refine mv_icmp_ge_t (tgt := 63) d_TrustDeskModel_isWord_33 (by decide) (by decide) ?_
              refine mv_iconst (v := 1) d_TrustDeskModel_isWord_63 (by decide) ?_
              exact mv_iret d_TrustDeskModel_isWord_64 rfl (by decide) ⟨_, I0, _, rfl, by decide, by decide, yR, (fun _ => by have := yR.1 15 _ _ rfl; have := yR.1 16 _ _ rfl; have := yR.1 19 _ _ rfl; omega), (fun _ => ⟨by have := yR.1 15 _ _ rfl; have := yR.1 16 _ _ rfl; have := yR.1 19 _ _ rfl; omega, by have := yR.1 15 _ _ rfl; have := yR.1 16 _ _ rfl; have := yR.1 19 _ _ rfl; omega, by have := yR.1 15 _ _ rfl; have := yR.1 16 _ _ rfl; have := yR.1 19 _ _ rfl; omega, by have := yR.1 15 _ _ rfl; have := yR.1 16 _ _ rfl; have := yR.1 19 _ _ rfl; omega, by have := yR.1 15 _ _ rfl; have := yR.1 16 _ _ rfl; have := yR.1 19 _ _ rfl; omega, by have := yR.1 15 _ _ rfl; have := yR.1 16 _ _ rfl; have := yR.1 19 _ _ rfl; omega⟩), (fun h => absurd h (by decide))⟩
            · refine mv_iconst (v := 0) d_TrustDeskModel_isWord_55 (by decide) ?_
              exact mv_iret d_TrustDeskModel_isWord_56 rfl (by decide) ⟨_, I0, _, rfl, by decide, by decide, yR, (fun h => absurd h (by decide)), (fun h => absurd h (by decide)), (fun _ h => by obtain ⟨h1, h2, h3, h4, h5, h6⟩ := h; have := yR.1 15 _ _ rfl; have := yR.1 16 _ _ rfl; have := yR.1 19 _ _ rfl; omega)⟩
          · refine mv_iconst (v := 0) d_TrustDeskModel_isWord_55 (by decide) ?_
            exact mv_iret d_TrustDeskModel_isWord_56 rfl (by decide) ⟨_, I0, _, rfl, by decide, by decide, yR, (fun h => absurd h (by decide)), (fun h => absurd h (by decide)), (fun _ h => by obtain ⟨h1, h2, h3, h4, h5, h6⟩ := h; have := yR.1 15 _ _ rfl; have := yR.1 16 _ _ rfl; have := yR.1 19 _ _ rfl; omega)⟩
        · refine mv_iconst (v := 0) d_TrustDeskModel_isWord_55 (by decide) ?_
          exact mv_iret d_TrustDeskModel_isWord_56 rfl (by decide) ⟨_, I0, _, rfl, by decide, by decide, yR, (fun h => absurd h (by decide)), (fun h => absurd h (by decide)), (fun _ h => by obtain ⟨h1, h2, h3, h4, h5, h6⟩ := h; have := yR.1 15 _ _ rfl; have := yR.1 16 _ _ rfl; have := yR.1 19 _ _ rfl; omega)⟩
      · refine mv_iconst (v := 0) d_TrustDeskModel_isWord_55 (by decide) ?_
        exact mv_iret d_TrustDeskModel_isWord_56 rfl (by decide) ⟨_, I0, _, rfl, by decide, by decide, yR, (fun h => absurd h (by decide)), (fun h => absurd h (by decide)), (fun _ h => by obtain ⟨h1, h2, h3, h4, h5, h6⟩ := h; have := yR.1 15 _ _ rfl; have := yR.1 16 _ _ rfl; have := yR.1 19 _ _ rfl; omega)⟩
    · refine mv_iconst (v := 0) d_TrustDeskModel_isWord_24 (by decide) ?_
      exact mv_iret d_TrustDeskModel_isWord_25 rfl (by decide) ⟨_, I0, _, rfl, by decide, by decide, yR, (fun h => absurd h (by decide)), (fun h => absurd h (by decide)), (fun _ h => by obtain ⟨h1, h2, h3, h4, h5, h6⟩ := h; have := yR.1 15 _ _ rfl; have := yR.1 16 _ _ rfl; have := yR.1 19 _ _ rfl; omega)⟩
theorem d_TrustDeskModel_ruleWord_21 : decode kY_TrustDeskModel_ruleWord.2.1 21 = .ok (.ifCond .eq 7, 3) := by decide +kernel
theorem d_TrustDeskModel_ruleWord_28 : decode kY_TrustDeskModel_ruleWord.2.1 28 = .ok (.aload_n 0, 1) := by decide +kernel
theorem d_TrustDeskModel_ruleWord_29 : decode kY_TrustDeskModel_ruleWord.2.1 29 = .ok (.ldc_w 355, 3) := by decide +kernel
theorem d_TrustDeskModel_ruleWord_32 : decode kY_TrustDeskModel_ruleWord.2.1 32 = .ok (.invokevirtual 244, 3) := by decide +kernel
def w_TrustDeskModel_isWord_s1_16_x : List Nat := []
set_option maxHeartbeats 100000000 in theorem tc_TrustDeskModel_isWord_s1_16_x {g : mj_G} {l : Launch} {d : Nat} {T0 : tm_H} {M0 : mj_M} {n0 x9 : Nat} {o0 : Nat} (h_o0 : T0 o0 = some (0, 13, 0)) (yR : rI M0 o0) (I0 : tm_I tm_FT (tm_in w_TrustDeskModel_isWord_s1_16_x) x9 T0 M0 n0 T0 M0 n0) : mj_Met g l kY_TrustDeskModel_isWord (d + 4) [.ref o0, .ref 16] M0 n0 0 0 (tm_Q tm_FT (tm_in w_TrustDeskModel_isWord_s1_16_x) x9 T0 M0 n0 (fun r _ M => ∃ v : Int32, r = some (.int v) ∧ 0 ≤ v.toInt ∧ v.toInt ≤ 1 ∧ rI M o0 ∧ (v.toInt = 1 → rv M0 o0 17 = 3) ∧ (v.toInt = 1 → rv M0 o0 17 = 3 ∧ rv M0 o0 15 - rv M0 o0 16 = 4 ∧ ra M0 o0 13 ((rv M0 o0 16).toNat + 0) = 100 ∧ ra M0 o0 13 ((rv M0 o0 16).toNat + 1) = 97 ∧ ra M0 o0 13 ((rv M0 o0 16).toNat + 2) = 121 ∧ ra M0 o0 13 ((rv M0 o0 16).toNat + 3) = 115) ∧ (v.toInt = 0 → ¬ (rv M0 o0 17 = 3 ∧ rv M0 o0 15 - rv M0 o0 16 = 4 ∧ ra M0 o0 13 ((rv M0 o0 16).toNat + 0) = 100 ∧ ra M0 o0 13 ((rv M0 o0 16).toNat + 1) = 97 ∧ ra M0 o0 13 ((rv M0 o0 16).toNat + 2) = 121 ∧ ra M0 o0 13 ((rv M0 o0 16).toNat + 3) = 115)))) := by
  refine mj_enter (by decide) (Nat.le_of_ble_eq_true rfl) ?_
  refine mv_aload_n d_TrustDeskModel_isWord_0 rfl rfl ?_
  obtain ⟨v2, q1⟩ := tm_atI I0 h_o0 (k := 17) rfl
  refine tr_getK q1 d_TrustDeskModel_isWord_1 f_TrustDeskModel_198_13 ?_
  have := tm_rv q1
  refine mv_iconst (v := 3) d_TrustDeskModel_isWord_4 (by decide) ?_
  have := mz_hi v2
  refine mv_icmp_neZ (tgt := 24) (a := v2.toInt) (b := 3) d_TrustDeskModel_isWord_5 (by decide) rfl (by decide) (fun b3 => ?_) (fun b3 => ?_)
  · refine mv_iconst (v := 0) d_TrustDeskModel_isWord_24 (by decide) ?_
    exact mv_iret d_TrustDeskModel_isWord_25 rfl (by decide) ⟨_, I0, _, rfl, by decide, by decide, yR, (fun h => absurd h (by decide)), (fun h => absurd h (by decide)), (fun _ h => by obtain ⟨h1, h2, h3, h4, h5, h6⟩ := h; have := yR.1 15 _ _ rfl; have := yR.1 16 _ _ rfl; have := yR.1 19 _ _ rfl; omega)⟩
  · refine mv_aload_n d_TrustDeskModel_isWord_8 rfl rfl ?_
    obtain ⟨v5, q4⟩ := tm_atI I0 h_o0 (k := 15) rfl
    refine tr_getK q4 d_TrustDeskModel_isWord_9 f_TrustDeskModel_192_13 ?_
    have := yR.f (k := 15) q4 rfl
    have := tm_rv q4
    refine mv_aload_n d_TrustDeskModel_isWord_12 rfl rfl ?_
    obtain ⟨v7, q6⟩ := tm_atI I0 h_o0 (k := 16) rfl
    refine tr_getK q6 d_TrustDeskModel_isWord_13 f_TrustDeskModel_195_13 ?_
    have := yR.f (k := 16) q6 rfl
    have := tm_rv q6
    refine mv_isub d_TrustDeskModel_isWord_16 ?_
    refine mv_aload_n d_TrustDeskModel_isWord_17 rfl rfl ?_
    refine mv_slenK (i := 6) (v := 4) d_TrustDeskModel_isWord_18 lV_TrustDeskModel_214 (by decide) rfl (by decide) (Nat.le_of_ble_eq_true rfl) ?_
    have b8 : (v5 - v7 : Int32).toInt = (v5.toInt - v7.toInt) := mz_sub2 rfl rfl (by have := yR.1 15 _ _ rfl; have := yR.1 16 _ _ rfl; have := yR.1 19 _ _ rfl; omega) (by have := yR.1 15 _ _ rfl; have := yR.1 16 _ _ rfl; have := yR.1 19 _ _ rfl; omega)
    have := mz_hi (v5 - v7)
    refine mv_icmp_eqZ (tgt := 26) (a := (v5 - v7).toInt) (b := 4) d_TrustDeskModel_isWord_21 (by decide) rfl (by decide) (fun b9 => ?_) (fun b9 => ?_)
    · refine mv_iconst (v := 0) d_TrustDeskModel_isWord_26 (by decide) ?_
      refine mv_istore_n (lv' := [(2, .int 0), (0, .ref o0), (1, .ref 16)]) d_TrustDeskModel_isWord_27 rfl (by decide) rfl ?_
      refine mv_iload_n d_TrustDeskModel_isWord_28 rfl rfl ?_
      refine mv_aload_n d_TrustDeskModel_isWord_29 rfl rfl ?_
      refine mv_slenK (i := 6) (v := 4) d_TrustDeskModel_isWord_30 lV_TrustDeskModel_214 (by decide) rfl (by decide) (Nat.le_of_ble_eq_true rfl) ?_
      refine mv_icmp_ge_f (tgt := 63) d_TrustDeskModel_isWord_33 (by decide) (by decide) ?_
      refine mv_aload_n d_TrustDeskModel_isWord_36 rfl rfl ?_
      obtain ⟨a11, q10, t_a11⟩ := tm_atR I0 h_o0 (k := 13) rfl
      refine tr_getK q10 d_TrustDeskModel_isWord_37 f_TrustDeskModel_44_13 ?_
      refine mv_aload_n d_TrustDeskModel_isWord_40 rfl rfl ?_
      refine tr_getK (k := 16) q6 d_TrustDeskModel_isWord_41 f_TrustDeskModel_195_13 ?_
      refine mv_iload_n d_TrustDeskModel_isWord_44 rfl rfl ?_
      refine mv_iadd d_TrustDeskModel_isWord_45 ?_
      have b12 : (v7 + 0 : Int32).toInt = (v7.toInt + 0) := mz_add2 rfl (by decide) (by have := yR.1 15 _ _ rfl; have := yR.1 16 _ _ rfl; have := yR.1 19 _ _ rfl; omega) (by have := yR.1 15 _ _ rfl; have := yR.1 16 _ _ rfl; have := yR.1 19 _ _ rfl; omega)
      refine tr_baldR (o := o0) (k := 13) I0 q10 t_a11 (by decide) d_TrustDeskModel_isWord_46 (vp_in_iff.mpr (by have := yR.1 15 _ _ rfl; have := yR.1 16 _ _ rfl; have := yR.1 19 _ _ rfl; omega)) (fun v13 e14 => ?_)
      have := yR.a (k := 13) rfl ((v7 + 0) : Int32).toNatClampNeg
      have h15 : (v7 + 0).toNatClampNeg = (rv M0 o0 16).toNat + 0 := by have := mz_nat9 (i := (v7 + 0)) (by have := yR.1 15 _ _ rfl; have := yR.1 16 _ _ rfl; have := yR.1 19 _ _ rfl; omega); have := yR.1 15 _ _ rfl; have := yR.1 16 _ _ rfl; have := yR.1 19 _ _ rfl; omega
      have : v13.toInt = ra M0 o0 13 ((rv M0 o0 16).toNat + 0) := by rw [e14, h15]
      refine mv_aload_n d_TrustDeskModel_isWord_47 rfl rfl ?_
      refine mv_iload_n d_TrustDeskModel_isWord_48 rfl rfl ?_
      refine mv_schC (i := 6) (v := 100) d_TrustDeskModel_isWord_49 lV_TrustDeskModel_220 (by decide) rfl (by decide) (by decide) (Nat.le_of_ble_eq_true rfl) (by decide) ?_
      have := mz_hi v13
      refine mv_icmp_eqZ (tgt := 57) (a := v13.toInt) (b := 100) d_TrustDeskModel_isWord_52 (by decide) rfl (by decide) (fun b16 => ?_) (fun b16 => ?_)
      · refine mv_iinc (v := 1) (lv' := [(2, .int 1), (0, .ref o0), (1, .ref 16)]) d_TrustDeskModel_isWord_57 rfl (by decide) (by decide) rfl ?_
        refine mv_goto (tgt := 28) d_TrustDeskModel_isWord_60 (by decide) ?_
        refine mv_iload_n d_TrustDeskModel_isWord_28 rfl rfl ?_
        refine mv_aload_n d_TrustDeskModel_isWord_29 rfl rfl ?_
        refine mv_slenK (i := 6) (v := 4) d_TrustDeskModel_isWord_30 lV_TrustDeskModel_214 (by decide) rfl (by decide) (Nat.le_of_ble_eq_true rfl) ?_
        refine mv_icmp_ge_f (tgt := 63) d_TrustDeskModel_isWord_33 (by decide) (by decide) ?_
        refine mv_aload_n d_TrustDeskModel_isWord_36 rfl rfl ?_
        refine tr_getK (k := 13) q10 d_TrustDeskModel_isWord_37 f_TrustDeskModel_44_13 ?_
        refine mv_aload_n d_TrustDeskModel_isWord_40 rfl rfl ?_
        refine tr_getK (k := 16) q6 d_TrustDeskModel_isWord_41 f_TrustDeskModel_195_13 ?_
        refine mv_iload_n d_TrustDeskModel_isWord_44 rfl rfl ?_
        refine mv_iadd d_TrustDeskModel_isWord_45 ?_
        have b17 : (v7 + 1 : Int32).toInt = (v7.toInt + 1) := mz_add2 rfl (by decide) (by have := yR.1 15 _ _ rfl; have := yR.1 16 _ _ rfl; have := yR.1 19 _ _ rfl; omega) (by have := yR.1 15 _ _ rfl; have := yR.1 16 _ _ rfl; have := yR.1 19 _ _ rfl; omega)
        refine tr_baldR (o := o0) (k := 13) I0 q10 t_a11 (by decide) d_TrustDeskModel_isWord_46 (vp_in_iff.mpr (by have := yR.1 15 _ _ rfl; have := yR.1 16 _ _ rfl; have := yR.1 19 _ _ rfl; omega)) (fun v18 e19 => ?_)
        have := yR.a (k := 13) rfl ((v7 + 1) : Int32).toNatClampNeg
        have h20 : (v7 + 1).toNatClampNeg = (rv M0 o0 16).toNat + 1 := by have := mz_nat9 (i := (v7 + 1)) (by have := yR.1 15 _ _ rfl; have := yR.1 16 _ _ rfl; have := yR.1 19 _ _ rfl; omega); have := yR.1 15 _ _ rfl; have := yR.1 16 _ _ rfl; have := yR.1 19 _ _ rfl; omega
        have : v18.toInt = ra M0 o0 13 ((rv M0 o0 16).toNat + 1) := by rw [e19, h20]
        refine mv_aload_n d_TrustDeskModel_isWord_47 rfl rfl ?_
        refine mv_iload_n d_TrustDeskModel_isWord_48 rfl rfl ?_
        refine mv_schC (i := 6) (v := 97) d_TrustDeskModel_isWord_49 lV_TrustDeskModel_220 (by decide) rfl (by decide) (by decide) (Nat.le_of_ble_eq_true rfl) (by decide) ?_
        have := mz_hi v18
        refine mv_icmp_eqZ (tgt := 57) (a := v18.toInt) (b := 97) d_TrustDeskModel_isWord_52 (by decide) rfl (by decide) (fun b21 => ?_) (fun b21 => ?_)
        · refine mv_iinc (v := 2) (lv' := [(2, .int 2), (0, .ref o0), (1, .ref 16)]) d_TrustDeskModel_isWord_57 rfl (by decide) (by decide) rfl ?_
          refine mv_goto (tgt := 28) d_TrustDeskModel_isWord_60 (by decide) ?_
          refine mv_iload_n d_TrustDeskModel_isWord_28 rfl rfl ?_
          refine mv_aload_n d_TrustDeskModel_isWord_29 rfl rfl ?_
          refine mv_slenK (i := 6) (v := 4) d_TrustDeskModel_isWord_30 lV_TrustDeskModel_214 (by decide) rfl (by decide) (Nat.le_of_ble_eq_true rfl) ?_
          refine mv_icmp_ge_f (tgt := 63) d_TrustDeskModel_isWord_33 (by decide) (by decide) ?_
          refine mv_aload_n d_TrustDeskModel_isWord_36 rfl rfl ?_
          refine tr_getK (k := 13) q10 d_TrustDeskModel_isWord_37 f_TrustDeskModel_44_13 ?_
          refine mv_aload_n d_TrustDeskModel_isWord_40 rfl rfl ?_
          refine tr_getK (k := 16) q6 d_TrustDeskModel_isWord_41 f_TrustDeskModel_195_13 ?_
          refine mv_iload_n d_TrustDeskModel_isWord_44 rfl rfl ?_
          refine mv_iadd d_TrustDeskModel_isWord_45 ?_
          have b22 : (v7 + 2 : Int32).toInt = (v7.toInt + 2) := mz_add2 rfl (by decide) (by have := yR.1 15 _ _ rfl; have := yR.1 16 _ _ rfl; have := yR.1 19 _ _ rfl; omega) (by have := yR.1 15 _ _ rfl; have := yR.1 16 _ _ rfl; have := yR.1 19 _ _ rfl; omega)
          refine tr_baldR (o := o0) (k := 13) I0 q10 t_a11 (by decide) d_TrustDeskModel_isWord_46 (vp_in_iff.mpr (by have := yR.1 15 _ _ rfl; have := yR.1 16 _ _ rfl; have := yR.1 19 _ _ rfl; omega)) (fun v23 e24 => ?_)
          have := yR.a (k := 13) rfl ((v7 + 2) : Int32).toNatClampNeg
          have h25 : (v7 + 2).toNatClampNeg = (rv M0 o0 16).toNat + 2 := by have := mz_nat9 (i := (v7 + 2)) (by have := yR.1 15 _ _ rfl; have := yR.1 16 _ _ rfl; have := yR.1 19 _ _ rfl; omega); have := yR.1 15 _ _ rfl; have := yR.1 16 _ _ rfl; have := yR.1 19 _ _ rfl; omega
          have : v23.toInt = ra M0 o0 13 ((rv M0 o0 16).toNat + 2) := by rw [e24, h25]
          refine mv_aload_n d_TrustDeskModel_isWord_47 rfl rfl ?_
          refine mv_iload_n d_TrustDeskModel_isWord_48 rfl rfl ?_
          refine mv_schC (i := 6) (v := 121) d_TrustDeskModel_isWord_49 lV_TrustDeskModel_220 (by decide) rfl (by decide) (by decide) (Nat.le_of_ble_eq_true rfl) (by decide) ?_
          have := mz_hi v23
          refine mv_icmp_eqZ (tgt := 57) (a := v23.toInt) (b := 121) d_TrustDeskModel_isWord_52 (by decide) rfl (by decide) (fun b26 => ?_) (fun b26 => ?_)
          · refine mv_iinc (v := 3) (lv' := [(2, .int 3), (0, .ref o0), (1, .ref 16)]) d_TrustDeskModel_isWord_57 rfl (by decide) (by decide) rfl ?_
            refine mv_goto (tgt := 28) d_TrustDeskModel_isWord_60 (by decide) ?_
            refine mv_iload_n d_TrustDeskModel_isWord_28 rfl rfl ?_
            refine mv_aload_n d_TrustDeskModel_isWord_29 rfl rfl ?_
            refine mv_slenK (i := 6) (v := 4) d_TrustDeskModel_isWord_30 lV_TrustDeskModel_214 (by decide) rfl (by decide) (Nat.le_of_ble_eq_true rfl) ?_
            refine mv_icmp_ge_f (tgt := 63) d_TrustDeskModel_isWord_33 (by decide) (by decide) ?_
            refine mv_aload_n d_TrustDeskModel_isWord_36 rfl rfl ?_
            refine tr_getK (k := 13) q10 d_TrustDeskModel_isWord_37 f_TrustDeskModel_44_13 ?_
            refine mv_aload_n d_TrustDeskModel_isWord_40 rfl rfl ?_
            refine tr_getK (k := 16) q6 d_TrustDeskModel_isWord_41 f_TrustDeskModel_195_13 ?_
            refine mv_iload_n d_TrustDeskModel_isWord_44 rfl rfl ?_
            refine mv_iadd d_TrustDeskModel_isWord_45 ?_
            have b27 : (v7 + 3 : Int32).toInt = (v7.toInt + 3) := mz_add2 rfl (by decide) (by have := yR.1 15 _ _ rfl; have := yR.1 16 _ _ rfl; have := yR.1 19 _ _ rfl; omega) (by have := yR.1 15 _ _ rfl; have := yR.1 16 _ _ rfl; have := yR.1 19 _ _ rfl; omega)
            refine tr_baldR (o := o0) (k := 13) I0 q10 t_a11 (by decide) d_TrustDeskModel_isWord_46 (vp_in_iff.mpr (by have := yR.1 15 _ _ rfl; have := yR.1 16 _ _ rfl; have := yR.1 19 _ _ rfl; omega)) (fun v28 e29 => ?_)
            have := yR.a (k := 13) rfl ((v7 + 3) : Int32).toNatClampNeg
            have h30 : (v7 + 3).toNatClampNeg = (rv M0 o0 16).toNat + 3 := by have := mz_nat9 (i := (v7 + 3)) (by have := yR.1 15 _ _ rfl; have := yR.1 16 _ _ rfl; have := yR.1 19 _ _ rfl; omega); have := yR.1 15 _ _ rfl; have := yR.1 16 _ _ rfl; have := yR.1 19 _ _ rfl; omega
            have : v28.toInt = ra M0 o0 13 ((rv M0 o0 16).toNat + 3) := by rw [e29, h30]
            refine mv_aload_n d_TrustDeskModel_isWord_47 rfl rfl ?_
            refine mv_iload_n d_TrustDeskModel_isWord_48 rfl rfl ?_
            refine mv_schC (i := 6) (v := 115) d_TrustDeskModel_isWord_49 lV_TrustDeskModel_220 (by decide) rfl (by decide) (by decide) (Nat.le_of_ble_eq_true rfl) (by decide) ?_
            have := mz_hi v28
            refine mv_icmp_eqZ (tgt := 57) (a := v28.toInt) (b := 115) d_TrustDeskModel_isWord_52 (by decide) rfl (by decide) (fun b31 => ?_) (fun b31 => ?_)
            · refine mv_iinc (v := 4) (lv' := [(2, .int 4), (0, .ref o0), (1, .ref 16)]) d_TrustDeskModel_isWord_57 rfl (by decide) (by decide) rfl ?_
              refine mv_goto (tgt := 28) d_TrustDeskModel_isWord_60 (by decide) ?_
              refine mv_iload_n d_TrustDeskModel_isWord_28 rfl rfl ?_
              refine mv_aload_n d_TrustDeskModel_isWord_29 rfl rfl ?_
              refine mv_slenK (i := 6) (v := 4) d_TrustDeskModel_isWord_30 lV_TrustDeskModel_214 (by decide) rfl (by decide) (Nat.le_of_ble_eq_true rfl) ?_
              refine mv_icmp_ge_t (tgt := 63) d_TrustDeskModel_isWord_33 (by decide) (by decide) ?_
              refine mv_iconst (v := 1) d_TrustDeskModel_isWord_63 (by decide) ?_
              exact mv_iret d_TrustDeskModel_isWord_64 rfl (by decide) ⟨_, I0, _, rfl, by decide, by decide, yR, (fun _ => by have := yR.1 15 _ _ rfl; have := yR.1 16 _ _ rfl; have := yR.1 19 _ _ rfl; omega), (fun _ => ⟨by have := yR.1 15 _ _ rfl; have := yR.1 16 _ _ rfl; have := yR.1 19 _ _ rfl; omega, by have := yR.1 15 _ _ rfl; have := yR.1 16 _ _ rfl; have := yR.1 19 _ _ rfl; omega, by have := yR.1 15 _ _ rfl; have := yR.1 16 _ _ rfl; have := yR.1 19 _ _ rfl; omega, by have := yR.1 15 _ _ rfl; have := yR.1 16 _ _ rfl; have := yR.1 19 _ _ rfl; omega, by have := yR.1 15 _ _ rfl; have := yR.1 16 _ _ rfl; have := yR.1 19 _ _ rfl; omega, by have := yR.1 15 _ _ rfl; have := yR.1 16 _ _ rfl; have := yR.1 19 _ _ rfl; omega⟩), (fun h => absurd h (by decide))⟩
            · refine mv_iconst (v := 0) d_TrustDeskModel_isWord_55 (by decide) ?_
              exact mv_iret d_TrustDeskModel_isWord_56 rfl (by decide) ⟨_, I0, _, rfl, by decide, by decide, yR, (fun h => absurd h (by decide)), (fun h => absurd h (by decide)), (fun _ h => by obtain ⟨h1, h2, h3, h4, h5, h6⟩ := h; have := yR.1 15 _ _ rfl; have := yR.1 16 _ _ rfl; have := yR.1 19 _ _ rfl; omega)⟩
          · refine mv_iconst (v := 0) d_TrustDeskModel_isWord_55 (by decide) ?_
            exact mv_iret d_TrustDeskModel_isWord_56 rfl (by decide) ⟨_, I0, _, rfl, by decide, by decide, yR, (fun h => absurd h (by decide)), (fun h => absurd h (by decide)), (fun _ h => by obtain ⟨h1, h2, h3, h4, h5, h6⟩ := h; have := yR.1 15 _ _ rfl; have := yR.1 16 _ _ rfl; have := yR.1 19 _ _ rfl; omega)⟩
        · refine mv_iconst (v := 0) d_TrustDeskModel_isWord_55 (by decide) ?_
          exact mv_iret d_TrustDeskModel_isWord_56 rfl (by decide) ⟨_, I0, _, rfl, by decide, by decide, yR, (fun h => absurd h (by decide)), (fun h => absurd h (by decide)), (fun _ h => by obtain ⟨h1, h2, h3, h4, h5, h6⟩ := h; have := yR.1 15 _ _ rfl; have := yR.1 16 _ _ rfl; have := yR.1 19 _ _ rfl; omega)⟩
      · refine mv_iconst (v := 0) d_TrustDeskModel_isWord_55 (by decide) ?_
        exact mv_iret d_TrustDeskModel_isWord_56 rfl (by decide) ⟨_, I0, _, rfl, by decide, by decide, yR, (fun h => absurd h (by decide)), (fun h => absurd h (by decide)), (fun _ h => by obtain ⟨h1, h2, h3, h4, h5, h6⟩ := h; have := yR.1 15 _ _ rfl; have := yR.1 16 _ _ rfl; have := yR.1 19 _ _ rfl; omega)⟩
    · refine mv_iconst (v := 0) d_TrustDeskModel_isWord_24 (by decide) ?_
      exact mv_iret d_TrustDeskModel_isWord_25 rfl (by decide) ⟨_, I0, _, rfl, by decide, by decide, yR, (fun h => absurd h (by decide)), (fun h => absurd h (by decide)), (fun _ h => by obtain ⟨h1, h2, h3, h4, h5, h6⟩ := h; have := yR.1 15 _ _ rfl; have := yR.1 16 _ _ rfl; have := yR.1 19 _ _ rfl; omega)⟩
theorem d_TrustDeskModel_ruleWord_35 : decode kY_TrustDeskModel_ruleWord.2.1 35 = .ok (.ifCond .eq 7, 3) := by decide +kernel
theorem d_TrustDeskModel_ruleWord_42 : decode kY_TrustDeskModel_ruleWord.2.1 42 = .ok (.aload_n 0, 1) := by decide +kernel
theorem d_TrustDeskModel_ruleWord_43 : decode kY_TrustDeskModel_ruleWord.2.1 43 = .ok (.ldc_w 357, 3) := by decide +kernel
theorem d_TrustDeskModel_ruleWord_46 : decode kY_TrustDeskModel_ruleWord.2.1 46 = .ok (.invokevirtual 244, 3) := by decide +kernel
def w_TrustDeskModel_isWord_s1_17_x : List Nat := []
set_option maxHeartbeats 100000000 in theorem tc_TrustDeskModel_isWord_s1_17_x {g : mj_G} {l : Launch} {d : Nat} {T0 : tm_H} {M0 : mj_M} {n0 x9 : Nat} {o0 : Nat} (h_o0 : T0 o0 = some (0, 13, 0)) (yR : rI M0 o0) (I0 : tm_I tm_FT (tm_in w_TrustDeskModel_isWord_s1_17_x) x9 T0 M0 n0 T0 M0 n0) : mj_Met g l kY_TrustDeskModel_isWord (d + 4) [.ref o0, .ref 17] M0 n0 0 0 (tm_Q tm_FT (tm_in w_TrustDeskModel_isWord_s1_17_x) x9 T0 M0 n0 (fun r _ M => ∃ v : Int32, r = some (.int v) ∧ 0 ≤ v.toInt ∧ v.toInt ≤ 1 ∧ rI M o0 ∧ (v.toInt = 1 → rv M0 o0 17 = 3) ∧ (v.toInt = 1 → rv M0 o0 17 = 3 ∧ rv M0 o0 15 - rv M0 o0 16 = 4 ∧ ra M0 o0 13 ((rv M0 o0 16).toNat + 0) = 108 ∧ ra M0 o0 13 ((rv M0 o0 16).toNat + 1) = 97 ∧ ra M0 o0 13 ((rv M0 o0 16).toNat + 2) = 116 ∧ ra M0 o0 13 ((rv M0 o0 16).toNat + 3) = 101) ∧ (v.toInt = 0 → ¬ (rv M0 o0 17 = 3 ∧ rv M0 o0 15 - rv M0 o0 16 = 4 ∧ ra M0 o0 13 ((rv M0 o0 16).toNat + 0) = 108 ∧ ra M0 o0 13 ((rv M0 o0 16).toNat + 1) = 97 ∧ ra M0 o0 13 ((rv M0 o0 16).toNat + 2) = 116 ∧ ra M0 o0 13 ((rv M0 o0 16).toNat + 3) = 101)))) := by
  refine mj_enter (by decide) (Nat.le_of_ble_eq_true rfl) ?_
  refine mv_aload_n d_TrustDeskModel_isWord_0 rfl rfl ?_
  obtain ⟨v2, q1⟩ := tm_atI I0 h_o0 (k := 17) rfl
  refine tr_getK q1 d_TrustDeskModel_isWord_1 f_TrustDeskModel_198_13 ?_
  have := tm_rv q1
  refine mv_iconst (v := 3) d_TrustDeskModel_isWord_4 (by decide) ?_
  have := mz_hi v2
  refine mv_icmp_neZ (tgt := 24) (a := v2.toInt) (b := 3) d_TrustDeskModel_isWord_5 (by decide) rfl (by decide) (fun b3 => ?_) (fun b3 => ?_)
  · refine mv_iconst (v := 0) d_TrustDeskModel_isWord_24 (by decide) ?_
    exact mv_iret d_TrustDeskModel_isWord_25 rfl (by decide) ⟨_, I0, _, rfl, by decide, by decide, yR, (fun h => absurd h (by decide)), (fun h => absurd h (by decide)), (fun _ h => by obtain ⟨h1, h2, h3, h4, h5, h6⟩ := h; have := yR.1 15 _ _ rfl; have := yR.1 16 _ _ rfl; have := yR.1 19 _ _ rfl; omega)⟩
  · refine mv_aload_n d_TrustDeskModel_isWord_8 rfl rfl ?_
    obtain ⟨v5, q4⟩ := tm_atI I0 h_o0 (k := 15) rfl
    refine tr_getK q4 d_TrustDeskModel_isWord_9 f_TrustDeskModel_192_13 ?_
    have := yR.f (k := 15) q4 rfl
    have := tm_rv q4
    refine mv_aload_n d_TrustDeskModel_isWord_12 rfl rfl ?_
    obtain ⟨v7, q6⟩ := tm_atI I0 h_o0 (k := 16) rfl
    refine tr_getK q6 d_TrustDeskModel_isWord_13 f_TrustDeskModel_195_13 ?_
    have := yR.f (k := 16) q6 rfl
    have := tm_rv q6
    refine mv_isub d_TrustDeskModel_isWord_16 ?_
    refine mv_aload_n d_TrustDeskModel_isWord_17 rfl rfl ?_
    refine mv_slenK (i := 7) (v := 4) d_TrustDeskModel_isWord_18 lV_TrustDeskModel_214 (by decide) rfl (by decide) (Nat.le_of_ble_eq_true rfl) ?_
    have b8 : (v5 - v7 : Int32).toInt = (v5.toInt - v7.toInt) := mz_sub2 rfl rfl (by have := yR.1 15 _ _ rfl; have := yR.1 16 _ _ rfl; have := yR.1 19 _ _ rfl; omega) (by have := yR.1 15 _ _ rfl; have := yR.1 16 _ _ rfl; have := yR.1 19 _ _ rfl; omega)
    have := mz_hi (v5 - v7)
    refine mv_icmp_eqZ (tgt := 26) (a := (v5 - v7).toInt) (b := 4) d_TrustDeskModel_isWord_21 (by decide) rfl (by decide) (fun b9 => ?_) (fun b9 => ?_)
    · refine mv_iconst (v := 0) d_TrustDeskModel_isWord_26 (by decide) ?_
      refine mv_istore_n (lv' := [(2, .int 0), (0, .ref o0), (1, .ref 17)]) d_TrustDeskModel_isWord_27 rfl (by decide) rfl ?_
      refine mv_iload_n d_TrustDeskModel_isWord_28 rfl rfl ?_
      refine mv_aload_n d_TrustDeskModel_isWord_29 rfl rfl ?_
      refine mv_slenK (i := 7) (v := 4) d_TrustDeskModel_isWord_30 lV_TrustDeskModel_214 (by decide) rfl (by decide) (Nat.le_of_ble_eq_true rfl) ?_
      refine mv_icmp_ge_f (tgt := 63) d_TrustDeskModel_isWord_33 (by decide) (by decide) ?_
      refine mv_aload_n d_TrustDeskModel_isWord_36 rfl rfl ?_
      obtain ⟨a11, q10, t_a11⟩ := tm_atR I0 h_o0 (k := 13) rfl
      refine tr_getK q10 d_TrustDeskModel_isWord_37 f_TrustDeskModel_44_13 ?_
      refine mv_aload_n d_TrustDeskModel_isWord_40 rfl rfl ?_
      refine tr_getK (k := 16) q6 d_TrustDeskModel_isWord_41 f_TrustDeskModel_195_13 ?_
      refine mv_iload_n d_TrustDeskModel_isWord_44 rfl rfl ?_
      refine mv_iadd d_TrustDeskModel_isWord_45 ?_
      have b12 : (v7 + 0 : Int32).toInt = (v7.toInt + 0) := mz_add2 rfl (by decide) (by have := yR.1 15 _ _ rfl; have := yR.1 16 _ _ rfl; have := yR.1 19 _ _ rfl; omega) (by have := yR.1 15 _ _ rfl; have := yR.1 16 _ _ rfl; have := yR.1 19 _ _ rfl; omega)
      refine tr_baldR (o := o0) (k := 13) I0 q10 t_a11 (by decide) d_TrustDeskModel_isWord_46 (vp_in_iff.mpr (by have := yR.1 15 _ _ rfl; have := yR.1 16 _ _ rfl; have := yR.1 19 _ _ rfl; omega)) (fun v13 e14 => ?_)
      have := yR.a (k := 13) rfl ((v7 + 0) : Int32).toNatClampNeg
      have h15 : (v7 + 0).toNatClampNeg = (rv M0 o0 16).toNat + 0 := by have := mz_nat9 (i := (v7 + 0)) (by have := yR.1 15 _ _ rfl; have := yR.1 16 _ _ rfl; have := yR.1 19 _ _ rfl; omega); have := yR.1 15 _ _ rfl; have := yR.1 16 _ _ rfl; have := yR.1 19 _ _ rfl; omega
      have : v13.toInt = ra M0 o0 13 ((rv M0 o0 16).toNat + 0) := by rw [e14, h15]
      refine mv_aload_n d_TrustDeskModel_isWord_47 rfl rfl ?_
      refine mv_iload_n d_TrustDeskModel_isWord_48 rfl rfl ?_
      refine mv_schC (i := 7) (v := 108) d_TrustDeskModel_isWord_49 lV_TrustDeskModel_220 (by decide) rfl (by decide) (by decide) (Nat.le_of_ble_eq_true rfl) (by decide) ?_
      have := mz_hi v13
      refine mv_icmp_eqZ (tgt := 57) (a := v13.toInt) (b := 108) d_TrustDeskModel_isWord_52 (by decide) rfl (by decide) (fun b16 => ?_) (fun b16 => ?_)
      · refine mv_iinc (v := 1) (lv' := [(2, .int 1), (0, .ref o0), (1, .ref 17)]) d_TrustDeskModel_isWord_57 rfl (by decide) (by decide) rfl ?_
        refine mv_goto (tgt := 28) d_TrustDeskModel_isWord_60 (by decide) ?_
        refine mv_iload_n d_TrustDeskModel_isWord_28 rfl rfl ?_
        refine mv_aload_n d_TrustDeskModel_isWord_29 rfl rfl ?_
        refine mv_slenK (i := 7) (v := 4) d_TrustDeskModel_isWord_30 lV_TrustDeskModel_214 (by decide) rfl (by decide) (Nat.le_of_ble_eq_true rfl) ?_
        refine mv_icmp_ge_f (tgt := 63) d_TrustDeskModel_isWord_33 (by decide) (by decide) ?_
        refine mv_aload_n d_TrustDeskModel_isWord_36 rfl rfl ?_
        refine tr_getK (k := 13) q10 d_TrustDeskModel_isWord_37 f_TrustDeskModel_44_13 ?_
        refine mv_aload_n d_TrustDeskModel_isWord_40 rfl rfl ?_
        refine tr_getK (k := 16) q6 d_TrustDeskModel_isWord_41 f_TrustDeskModel_195_13 ?_
        refine mv_iload_n d_TrustDeskModel_isWord_44 rfl rfl ?_
        refine mv_iadd d_TrustDeskModel_isWord_45 ?_
        have b17 : (v7 + 1 : Int32).toInt = (v7.toInt + 1) := mz_add2 rfl (by decide) (by have := yR.1 15 _ _ rfl; have := yR.1 16 _ _ rfl; have := yR.1 19 _ _ rfl; omega) (by have := yR.1 15 _ _ rfl; have := yR.1 16 _ _ rfl; have := yR.1 19 _ _ rfl; omega)
        refine tr_baldR (o := o0) (k := 13) I0 q10 t_a11 (by decide) d_TrustDeskModel_isWord_46 (vp_in_iff.mpr (by have := yR.1 15 _ _ rfl; have := yR.1 16 _ _ rfl; have := yR.1 19 _ _ rfl; omega)) (fun v18 e19 => ?_)
        have := yR.a (k := 13) rfl ((v7 + 1) : Int32).toNatClampNeg
        have h20 : (v7 + 1).toNatClampNeg = (rv M0 o0 16).toNat + 1 := by have := mz_nat9 (i := (v7 + 1)) (by have := yR.1 15 _ _ rfl; have := yR.1 16 _ _ rfl; have := yR.1 19 _ _ rfl; omega); have := yR.1 15 _ _ rfl; have := yR.1 16 _ _ rfl; have := yR.1 19 _ _ rfl; omega
        have : v18.toInt = ra M0 o0 13 ((rv M0 o0 16).toNat + 1) := by rw [e19, h20]
        refine mv_aload_n d_TrustDeskModel_isWord_47 rfl rfl ?_
        refine mv_iload_n d_TrustDeskModel_isWord_48 rfl rfl ?_
        refine mv_schC (i := 7) (v := 97) d_TrustDeskModel_isWord_49 lV_TrustDeskModel_220 (by decide) rfl (by decide) (by decide) (Nat.le_of_ble_eq_true rfl) (by decide) ?_
        have := mz_hi v18
        refine mv_icmp_eqZ (tgt := 57) (a := v18.toInt) (b := 97) d_TrustDeskModel_isWord_52 (by decide) rfl (by decide) (fun b21 => ?_) (fun b21 => ?_)
        · refine mv_iinc (v := 2) (lv' := [(2, .int 2), (0, .ref o0), (1, .ref 17)]) d_TrustDeskModel_isWord_57 rfl (by decide) (by decide) rfl ?_
          refine mv_goto (tgt := 28) d_TrustDeskModel_isWord_60 (by decide) ?_
          refine mv_iload_n d_TrustDeskModel_isWord_28 rfl rfl ?_
          refine mv_aload_n d_TrustDeskModel_isWord_29 rfl rfl ?_
          refine mv_slenK (i := 7) (v := 4) d_TrustDeskModel_isWord_30 lV_TrustDeskModel_214 (by decide) rfl (by decide) (Nat.le_of_ble_eq_true rfl) ?_
          refine mv_icmp_ge_f (tgt := 63) d_TrustDeskModel_isWord_33 (by decide) (by decide) ?_
          refine mv_aload_n d_TrustDeskModel_isWord_36 rfl rfl ?_
          refine tr_getK (k := 13) q10 d_TrustDeskModel_isWord_37 f_TrustDeskModel_44_13 ?_
          refine mv_aload_n d_TrustDeskModel_isWord_40 rfl rfl ?_
          refine tr_getK (k := 16) q6 d_TrustDeskModel_isWord_41 f_TrustDeskModel_195_13 ?_
          refine mv_iload_n d_TrustDeskModel_isWord_44 rfl rfl ?_
          refine mv_iadd d_TrustDeskModel_isWord_45 ?_
          have b22 : (v7 + 2 : Int32).toInt = (v7.toInt + 2) := mz_add2 rfl (by decide) (by have := yR.1 15 _ _ rfl; have := yR.1 16 _ _ rfl; have := yR.1 19 _ _ rfl; omega) (by have := yR.1 15 _ _ rfl; have := yR.1 16 _ _ rfl; have := yR.1 19 _ _ rfl; omega)
          refine tr_baldR (o := o0) (k := 13) I0 q10 t_a11 (by decide) d_TrustDeskModel_isWord_46 (vp_in_iff.mpr (by have := yR.1 15 _ _ rfl; have := yR.1 16 _ _ rfl; have := yR.1 19 _ _ rfl; omega)) (fun v23 e24 => ?_)
          have := yR.a (k := 13) rfl ((v7 + 2) : Int32).toNatClampNeg
          have h25 : (v7 + 2).toNatClampNeg = (rv M0 o0 16).toNat + 2 := by have := mz_nat9 (i := (v7 + 2)) (by have := yR.1 15 _ _ rfl; have := yR.1 16 _ _ rfl; have := yR.1 19 _ _ rfl; omega); have := yR.1 15 _ _ rfl; have := yR.1 16 _ _ rfl; have := yR.1 19 _ _ rfl; omega
          have : v23.toInt = ra M0 o0 13 ((rv M0 o0 16).toNat + 2) := by rw [e24, h25]
          refine mv_aload_n d_TrustDeskModel_isWord_47 rfl rfl ?_
          refine mv_iload_n d_TrustDeskModel_isWord_48 rfl rfl ?_
          refine mv_schC (i := 7) (v := 116) d_TrustDeskModel_isWord_49 lV_TrustDeskModel_220 (by decide) rfl (by decide) (by decide) (Nat.le_of_ble_eq_true rfl) (by decide) ?_
          have := mz_hi v23
          refine mv_icmp_eqZ (tgt := 57) (a := v23.toInt) (b := 116) d_TrustDeskModel_isWord_52 (by decide) rfl (by decide) (fun b26 => ?_) (fun b26 => ?_)
          · refine mv_iinc (v := 3) (lv' := [(2, .int 3), (0, .ref o0), (1, .ref 17)]) d_TrustDeskModel_isWord_57 rfl (by decide) (by decide) rfl ?_
            refine mv_goto (tgt := 28) d_TrustDeskModel_isWord_60 (by decide) ?_
            refine mv_iload_n d_TrustDeskModel_isWord_28 rfl rfl ?_
            refine mv_aload_n d_TrustDeskModel_isWord_29 rfl rfl ?_
            refine mv_slenK (i := 7) (v := 4) d_TrustDeskModel_isWord_30 lV_TrustDeskModel_214 (by decide) rfl (by decide) (Nat.le_of_ble_eq_true rfl) ?_
            refine mv_icmp_ge_f (tgt := 63) d_TrustDeskModel_isWord_33 (by decide) (by decide) ?_
            refine mv_aload_n d_TrustDeskModel_isWord_36 rfl rfl ?_
            refine tr_getK (k := 13) q10 d_TrustDeskModel_isWord_37 f_TrustDeskModel_44_13 ?_
            refine mv_aload_n d_TrustDeskModel_isWord_40 rfl rfl ?_
            refine tr_getK (k := 16) q6 d_TrustDeskModel_isWord_41 f_TrustDeskModel_195_13 ?_
            refine mv_iload_n d_TrustDeskModel_isWord_44 rfl rfl ?_
            refine mv_iadd d_TrustDeskModel_isWord_45 ?_
            have b27 : (v7 + 3 : Int32).toInt = (v7.toInt + 3) := mz_add2 rfl (by decide) (by have := yR.1 15 _ _ rfl; have := yR.1 16 _ _ rfl; have := yR.1 19 _ _ rfl; omega) (by have := yR.1 15 _ _ rfl; have := yR.1 16 _ _ rfl; have := yR.1 19 _ _ rfl; omega)
            refine tr_baldR (o := o0) (k := 13) I0 q10 t_a11 (by decide) d_TrustDeskModel_isWord_46 (vp_in_iff.mpr (by have := yR.1 15 _ _ rfl; have := yR.1 16 _ _ rfl; have := yR.1 19 _ _ rfl; omega)) (fun v28 e29 => ?_)
            have := yR.a (k := 13) rfl ((v7 + 3) : Int32).toNatClampNeg
            have h30 : (v7 + 3).toNatClampNeg = (rv M0 o0 16).toNat + 3 := by have := mz_nat9 (i := (v7 + 3)) (by have := yR.1 15 _ _ rfl; have := yR.1 16 _ _ rfl; have := yR.1 19 _ _ rfl; omega); have := yR.1 15 _ _ rfl; have := yR.1 16 _ _ rfl; have := yR.1 19 _ _ rfl; omega
            have : v28.toInt = ra M0 o0 13 ((rv M0 o0 16).toNat + 3) := by rw [e29, h30]
            refine mv_aload_n d_TrustDeskModel_isWord_47 rfl rfl ?_
            refine mv_iload_n d_TrustDeskModel_isWord_48 rfl rfl ?_
            refine mv_schC (i := 7) (v := 101) d_TrustDeskModel_isWord_49 lV_TrustDeskModel_220 (by decide) rfl (by decide) (by decide) (Nat.le_of_ble_eq_true rfl) (by decide) ?_
            have := mz_hi v28
            refine mv_icmp_eqZ (tgt := 57) (a := v28.toInt) (b := 101) d_TrustDeskModel_isWord_52 (by decide) rfl (by decide) (fun b31 => ?_) (fun b31 => ?_)
            · refine mv_iinc (v := 4) (lv' := [(2, .int 4), (0, .ref o0), (1, .ref 17)]) d_TrustDeskModel_isWord_57 rfl (by decide) (by decide) rfl ?_
              refine mv_goto (tgt := 28) d_TrustDeskModel_isWord_60 (by decide) ?_
              refine mv_iload_n d_TrustDeskModel_isWord_28 rfl rfl ?_
              refine mv_aload_n d_TrustDeskModel_isWord_29 rfl rfl ?_
              refine mv_slenK (i := 7) (v := 4) d_TrustDeskModel_isWord_30 lV_TrustDeskModel_214 (by decide) rfl (by decide) (Nat.le_of_ble_eq_true rfl) ?_
              refine mv_icmp_ge_t (tgt := 63) d_TrustDeskModel_isWord_33 (by decide) (by decide) ?_
              refine mv_iconst (v := 1) d_TrustDeskModel_isWord_63 (by decide) ?_
              exact mv_iret d_TrustDeskModel_isWord_64 rfl (by decide) ⟨_, I0, _, rfl, by decide, by decide, yR, (fun _ => by have := yR.1 15 _ _ rfl; have := yR.1 16 _ _ rfl; have := yR.1 19 _ _ rfl; omega), (fun _ => ⟨by have := yR.1 15 _ _ rfl; have := yR.1 16 _ _ rfl; have := yR.1 19 _ _ rfl; omega, by have := yR.1 15 _ _ rfl; have := yR.1 16 _ _ rfl; have := yR.1 19 _ _ rfl; omega, by have := yR.1 15 _ _ rfl; have := yR.1 16 _ _ rfl; have := yR.1 19 _ _ rfl; omega, by have := yR.1 15 _ _ rfl; have := yR.1 16 _ _ rfl; have := yR.1 19 _ _ rfl; omega, by have := yR.1 15 _ _ rfl; have := yR.1 16 _ _ rfl; have := yR.1 19 _ _ rfl; omega, by have := yR.1 15 _ _ rfl; have := yR.1 16 _ _ rfl; have := yR.1 19 _ _ rfl; omega⟩), (fun h => absurd h (by decide))⟩
            · refine mv_iconst (v := 0) d_TrustDeskModel_isWord_55 (by decide) ?_
              exact mv_iret d_TrustDeskModel_isWord_56 rfl (by decide) ⟨_, I0, _, rfl, by decide, by decide, yR, (fun h => absurd h (by decide)), (fun h => absurd h (by decide)), (fun _ h => by obtain ⟨h1, h2, h3, h4, h5, h6⟩ := h; have := yR.1 15 _ _ rfl; have := yR.1 16 _ _ rfl; have := yR.1 19 _ _ rfl; omega)⟩
          · refine mv_iconst (v := 0) d_TrustDeskModel_isWord_55 (by decide) ?_
            exact mv_iret d_TrustDeskModel_isWord_56 rfl (by decide) ⟨_, I0, _, rfl, by decide, by decide, yR, (fun h => absurd h (by decide)), (fun h => absurd h (by decide)), (fun _ h => by obtain ⟨h1, h2, h3, h4, h5, h6⟩ := h; have := yR.1 15 _ _ rfl; have := yR.1 16 _ _ rfl; have := yR.1 19 _ _ rfl; omega)⟩
        · refine mv_iconst (v := 0) d_TrustDeskModel_isWord_55 (by decide) ?_
          exact mv_iret d_TrustDeskModel_isWord_56 rfl (by decide) ⟨_, I0, _, rfl, by decide, by decide, yR, (fun h => absurd h (by decide)), (fun h => absurd h (by decide)), (fun _ h => by obtain ⟨h1, h2, h3, h4, h5, h6⟩ := h; have := yR.1 15 _ _ rfl; have := yR.1 16 _ _ rfl; have := yR.1 19 _ _ rfl; omega)⟩
      · refine mv_iconst (v := 0) d_TrustDeskModel_isWord_55 (by decide) ?_
        exact mv_iret d_TrustDeskModel_isWord_56 rfl (by decide) ⟨_, I0, _, rfl, by decide, by decide, yR, (fun h => absurd h (by decide)), (fun h => absurd h (by decide)), (fun _ h => by obtain ⟨h1, h2, h3, h4, h5, h6⟩ := h; have := yR.1 15 _ _ rfl; have := yR.1 16 _ _ rfl; have := yR.1 19 _ _ rfl; omega)⟩
    · refine mv_iconst (v := 0) d_TrustDeskModel_isWord_24 (by decide) ?_
      exact mv_iret d_TrustDeskModel_isWord_25 rfl (by decide) ⟨_, I0, _, rfl, by decide, by decide, yR, (fun h => absurd h (by decide)), (fun h => absurd h (by decide)), (fun _ h => by obtain ⟨h1, h2, h3, h4, h5, h6⟩ := h; have := yR.1 15 _ _ rfl; have := yR.1 16 _ _ rfl; have := yR.1 19 _ _ rfl; omega)⟩
theorem d_TrustDeskModel_ruleWord_49 : decode kY_TrustDeskModel_ruleWord.2.1 49 = .ok (.ifCond .eq 7, 3) := by decide +kernel
theorem d_TrustDeskModel_ruleWord_56 : decode kY_TrustDeskModel_ruleWord.2.1 56 = .ok (.aload_n 0, 1) := by decide +kernel
theorem d_TrustDeskModel_ruleWord_57 : decode kY_TrustDeskModel_ruleWord.2.1 57 = .ok (.ldc_w 359, 3) := by decide +kernel
theorem d_TrustDeskModel_ruleWord_60 : decode kY_TrustDeskModel_ruleWord.2.1 60 = .ok (.invokevirtual 244, 3) := by decide +kernel
def w_TrustDeskModel_isWord_s1_18_x : List Nat := []
set_option maxHeartbeats 100000000 in theorem tc_TrustDeskModel_isWord_s1_18_x {g : mj_G} {l : Launch} {d : Nat} {T0 : tm_H} {M0 : mj_M} {n0 x9 : Nat} {o0 : Nat} (h_o0 : T0 o0 = some (0, 13, 0)) (yR : rI M0 o0) (I0 : tm_I tm_FT (tm_in w_TrustDeskModel_isWord_s1_18_x) x9 T0 M0 n0 T0 M0 n0) : mj_Met g l kY_TrustDeskModel_isWord (d + 4) [.ref o0, .ref 18] M0 n0 0 0 (tm_Q tm_FT (tm_in w_TrustDeskModel_isWord_s1_18_x) x9 T0 M0 n0 (fun r _ M => ∃ v : Int32, r = some (.int v) ∧ 0 ≤ v.toInt ∧ v.toInt ≤ 1 ∧ rI M o0 ∧ (v.toInt = 1 → rv M0 o0 17 = 3) ∧ (v.toInt = 1 → rv M0 o0 17 = 3 ∧ rv M0 o0 15 - rv M0 o0 16 = 4 ∧ ra M0 o0 13 ((rv M0 o0 16).toNat + 0) = 103 ∧ ra M0 o0 13 ((rv M0 o0 16).toNat + 1) = 97 ∧ ra M0 o0 13 ((rv M0 o0 16).toNat + 2) = 105 ∧ ra M0 o0 13 ((rv M0 o0 16).toNat + 3) = 110) ∧ (v.toInt = 0 → ¬ (rv M0 o0 17 = 3 ∧ rv M0 o0 15 - rv M0 o0 16 = 4 ∧ ra M0 o0 13 ((rv M0 o0 16).toNat + 0) = 103 ∧ ra M0 o0 13 ((rv M0 o0 16).toNat + 1) = 97 ∧ ra M0 o0 13 ((rv M0 o0 16).toNat + 2) = 105 ∧ ra M0 o0 13 ((rv M0 o0 16).toNat + 3) = 110)))) := by
  refine mj_enter (by decide) (Nat.le_of_ble_eq_true rfl) ?_
  refine mv_aload_n d_TrustDeskModel_isWord_0 rfl rfl ?_
  obtain ⟨v2, q1⟩ := tm_atI I0 h_o0 (k := 17) rfl
  refine tr_getK q1 d_TrustDeskModel_isWord_1 f_TrustDeskModel_198_13 ?_
  have := tm_rv q1
  refine mv_iconst (v := 3) d_TrustDeskModel_isWord_4 (by decide) ?_
  have := mz_hi v2
  refine mv_icmp_neZ (tgt := 24) (a := v2.toInt) (b := 3) d_TrustDeskModel_isWord_5 (by decide) rfl (by decide) (fun b3 => ?_) (fun b3 => ?_)
  · refine mv_iconst (v := 0) d_TrustDeskModel_isWord_24 (by decide) ?_
    exact mv_iret d_TrustDeskModel_isWord_25 rfl (by decide) ⟨_, I0, _, rfl, by decide, by decide, yR, (fun h => absurd h (by decide)), (fun h => absurd h (by decide)), (fun _ h => by obtain ⟨h1, h2, h3, h4, h5, h6⟩ := h; have := yR.1 15 _ _ rfl; have := yR.1 16 _ _ rfl; have := yR.1 19 _ _ rfl; omega)⟩
  · refine mv_aload_n d_TrustDeskModel_isWord_8 rfl rfl ?_
    obtain ⟨v5, q4⟩ := tm_atI I0 h_o0 (k := 15) rfl
    refine tr_getK q4 d_TrustDeskModel_isWord_9 f_TrustDeskModel_192_13 ?_
    have := yR.f (k := 15) q4 rfl
    have := tm_rv q4
    refine mv_aload_n d_TrustDeskModel_isWord_12 rfl rfl ?_
    obtain ⟨v7, q6⟩ := tm_atI I0 h_o0 (k := 16) rfl
    refine tr_getK q6 d_TrustDeskModel_isWord_13 f_TrustDeskModel_195_13 ?_
    have := yR.f (k := 16) q6 rfl
    have := tm_rv q6
    refine mv_isub d_TrustDeskModel_isWord_16 ?_
    refine mv_aload_n d_TrustDeskModel_isWord_17 rfl rfl ?_
    refine mv_slenK (i := 8) (v := 4) d_TrustDeskModel_isWord_18 lV_TrustDeskModel_214 (by decide) rfl (by decide) (Nat.le_of_ble_eq_true rfl) ?_
    have b8 : (v5 - v7 : Int32).toInt = (v5.toInt - v7.toInt) := mz_sub2 rfl rfl (by have := yR.1 15 _ _ rfl; have := yR.1 16 _ _ rfl; have := yR.1 19 _ _ rfl; omega) (by have := yR.1 15 _ _ rfl; have := yR.1 16 _ _ rfl; have := yR.1 19 _ _ rfl; omega)
    have := mz_hi (v5 - v7)
    refine mv_icmp_eqZ (tgt := 26) (a := (v5 - v7).toInt) (b := 4) d_TrustDeskModel_isWord_21 (by decide) rfl (by decide) (fun b9 => ?_) (fun b9 => ?_)
    · refine mv_iconst (v := 0) d_TrustDeskModel_isWord_26 (by decide) ?_
      refine mv_istore_n (lv' := [(2, .int 0), (0, .ref o0), (1, .ref 18)]) d_TrustDeskModel_isWord_27 rfl (by decide) rfl ?_
      refine mv_iload_n d_TrustDeskModel_isWord_28 rfl rfl ?_
      refine mv_aload_n d_TrustDeskModel_isWord_29 rfl rfl ?_
      refine mv_slenK (i := 8) (v := 4) d_TrustDeskModel_isWord_30 lV_TrustDeskModel_214 (by decide) rfl (by decide) (Nat.le_of_ble_eq_true rfl) ?_
      refine mv_icmp_ge_f (tgt := 63) d_TrustDeskModel_isWord_33 (by decide) (by decide) ?_
      refine mv_aload_n d_TrustDeskModel_isWord_36 rfl rfl ?_
      obtain ⟨a11, q10, t_a11⟩ := tm_atR I0 h_o0 (k := 13) rfl
      refine tr_getK q10 d_TrustDeskModel_isWord_37 f_TrustDeskModel_44_13 ?_
      refine mv_aload_n d_TrustDeskModel_isWord_40 rfl rfl ?_
      refine tr_getK (k := 16) q6 d_TrustDeskModel_isWord_41 f_TrustDeskModel_195_13 ?_
      refine mv_iload_n d_TrustDeskModel_isWord_44 rfl rfl ?_
      refine mv_iadd d_TrustDeskModel_isWord_45 ?_
      have b12 : (v7 + 0 : Int32).toInt = (v7.toInt + 0) := mz_add2 rfl (by decide) (by have := yR.1 15 _ _ rfl; have := yR.1 16 _ _ rfl; have := yR.1 19 _ _ rfl; omega) (by have := yR.1 15 _ _ rfl; have := yR.1 16 _ _ rfl; have := yR.1 19 _ _ rfl; omega)
      refine tr_baldR (o := o0) (k := 13) I0 q10 t_a11 (by decide) d_TrustDeskModel_isWord_46 (vp_in_iff.mpr (by have := yR.1 15 _ _ rfl; have := yR.1 16 _ _ rfl; have := yR.1 19 _ _ rfl; omega)) (fun v13 e14 => ?_)
      have := yR.a (k := 13) rfl ((v7 + 0) : Int32).toNatClampNeg
      have h15 : (v7 + 0).toNatClampNeg = (rv M0 o0 16).toNat + 0 := by have := mz_nat9 (i := (v7 + 0)) (by have := yR.1 15 _ _ rfl; have := yR.1 16 _ _ rfl; have := yR.1 19 _ _ rfl; omega); have := yR.1 15 _ _ rfl; have := yR.1 16 _ _ rfl; have := yR.1 19 _ _ rfl; omega
      have : v13.toInt = ra M0 o0 13 ((rv M0 o0 16).toNat + 0) := by rw [e14, h15]
      refine mv_aload_n d_TrustDeskModel_isWord_47 rfl rfl ?_
      refine mv_iload_n d_TrustDeskModel_isWord_48 rfl rfl ?_
      refine mv_schC (i := 8) (v := 103) d_TrustDeskModel_isWord_49 lV_TrustDeskModel_220 (by decide) rfl (by decide) (by decide) (Nat.le_of_ble_eq_true rfl) (by decide) ?_
      have := mz_hi v13
      refine mv_icmp_eqZ (tgt := 57) (a := v13.toInt) (b := 103) d_TrustDeskModel_isWord_52 (by decide) rfl (by decide) (fun b16 => ?_) (fun b16 => ?_)
      · refine mv_iinc (v := 1) (lv' := [(2, .int 1), (0, .ref o0), (1, .ref 18)]) d_TrustDeskModel_isWord_57 rfl (by decide) (by decide) rfl ?_
        refine mv_goto (tgt := 28) d_TrustDeskModel_isWord_60 (by decide) ?_
        refine mv_iload_n d_TrustDeskModel_isWord_28 rfl rfl ?_
        refine mv_aload_n d_TrustDeskModel_isWord_29 rfl rfl ?_
        refine mv_slenK (i := 8) (v := 4) d_TrustDeskModel_isWord_30 lV_TrustDeskModel_214 (by decide) rfl (by decide) (Nat.le_of_ble_eq_true rfl) ?_
        refine mv_icmp_ge_f (tgt := 63) d_TrustDeskModel_isWord_33 (by decide) (by decide) ?_
        refine mv_aload_n d_TrustDeskModel_isWord_36 rfl rfl ?_
        refine tr_getK (k := 13) q10 d_TrustDeskModel_isWord_37 f_TrustDeskModel_44_13 ?_
        refine mv_aload_n d_TrustDeskModel_isWord_40 rfl rfl ?_
        refine tr_getK (k := 16) q6 d_TrustDeskModel_isWord_41 f_TrustDeskModel_195_13 ?_
        refine mv_iload_n d_TrustDeskModel_isWord_44 rfl rfl ?_
        refine mv_iadd d_TrustDeskModel_isWord_45 ?_
        have b17 : (v7 + 1 : Int32).toInt = (v7.toInt + 1) := mz_add2 rfl (by decide) (by have := yR.1 15 _ _ rfl; have := yR.1 16 _ _ rfl; have := yR.1 19 _ _ rfl; omega) (by have := yR.1 15 _ _ rfl; have := yR.1 16 _ _ rfl; have := yR.1 19 _ _ rfl; omega)
        refine tr_baldR (o := o0) (k := 13) I0 q10 t_a11 (by decide) d_TrustDeskModel_isWord_46 (vp_in_iff.mpr (by have := yR.1 15 _ _ rfl; have := yR.1 16 _ _ rfl; have := yR.1 19 _ _ rfl; omega)) (fun v18 e19 => ?_)
        have := yR.a (k := 13) rfl ((v7 + 1) : Int32).toNatClampNeg
        have h20 : (v7 + 1).toNatClampNeg = (rv M0 o0 16).toNat + 1 := by have := mz_nat9 (i := (v7 + 1)) (by have := yR.1 15 _ _ rfl; have := yR.1 16 _ _ rfl; have := yR.1 19 _ _ rfl; omega); have := yR.1 15 _ _ rfl; have := yR.1 16 _ _ rfl; have := yR.1 19 _ _ rfl; omega
        have : v18.toInt = ra M0 o0 13 ((rv M0 o0 16).toNat + 1) := by rw [e19, h20]
        refine mv_aload_n d_TrustDeskModel_isWord_47 rfl rfl ?_
        refine mv_iload_n d_TrustDeskModel_isWord_48 rfl rfl ?_
        refine mv_schC (i := 8) (v := 97) d_TrustDeskModel_isWord_49 lV_TrustDeskModel_220 (by decide) rfl (by decide) (by decide) (Nat.le_of_ble_eq_true rfl) (by decide) ?_
        have := mz_hi v18
        refine mv_icmp_eqZ (tgt := 57) (a := v18.toInt) (b := 97) d_TrustDeskModel_isWord_52 (by decide) rfl (by decide) (fun b21 => ?_) (fun b21 => ?_)
        · refine mv_iinc (v := 2) (lv' := [(2, .int 2), (0, .ref o0), (1, .ref 18)]) d_TrustDeskModel_isWord_57 rfl (by decide) (by decide) rfl ?_
          refine mv_goto (tgt := 28) d_TrustDeskModel_isWord_60 (by decide) ?_
          refine mv_iload_n d_TrustDeskModel_isWord_28 rfl rfl ?_
          refine mv_aload_n d_TrustDeskModel_isWord_29 rfl rfl ?_
          refine mv_slenK (i := 8) (v := 4) d_TrustDeskModel_isWord_30 lV_TrustDeskModel_214 (by decide) rfl (by decide) (Nat.le_of_ble_eq_true rfl) ?_
          refine mv_icmp_ge_f (tgt := 63) d_TrustDeskModel_isWord_33 (by decide) (by decide) ?_
          refine mv_aload_n d_TrustDeskModel_isWord_36 rfl rfl ?_
          refine tr_getK (k := 13) q10 d_TrustDeskModel_isWord_37 f_TrustDeskModel_44_13 ?_
          refine mv_aload_n d_TrustDeskModel_isWord_40 rfl rfl ?_
          refine tr_getK (k := 16) q6 d_TrustDeskModel_isWord_41 f_TrustDeskModel_195_13 ?_
          refine mv_iload_n d_TrustDeskModel_isWord_44 rfl rfl ?_
          refine mv_iadd d_TrustDeskModel_isWord_45 ?_
          have b22 : (v7 + 2 : Int32).toInt = (v7.toInt + 2) := mz_add2 rfl (by decide) (by have := yR.1 15 _ _ rfl; have := yR.1 16 _ _ rfl; have := yR.1 19 _ _ rfl; omega) (by have := yR.1 15 _ _ rfl; have := yR.1 16 _ _ rfl; have := yR.1 19 _ _ rfl; omega)
          refine tr_baldR (o := o0) (k := 13) I0 q10 t_a11 (by decide) d_TrustDeskModel_isWord_46 (vp_in_iff.mpr (by have := yR.1 15 _ _ rfl; have := yR.1 16 _ _ rfl; have := yR.1 19 _ _ rfl; omega)) (fun v23 e24 => ?_)
          have := yR.a (k := 13) rfl ((v7 + 2) : Int32).toNatClampNeg
          have h25 : (v7 + 2).toNatClampNeg = (rv M0 o0 16).toNat + 2 := by have := mz_nat9 (i := (v7 + 2)) (by have := yR.1 15 _ _ rfl; have := yR.1 16 _ _ rfl; have := yR.1 19 _ _ rfl; omega); have := yR.1 15 _ _ rfl; have := yR.1 16 _ _ rfl; have := yR.1 19 _ _ rfl; omega
          have : v23.toInt = ra M0 o0 13 ((rv M0 o0 16).toNat + 2) := by rw [e24, h25]
          refine mv_aload_n d_TrustDeskModel_isWord_47 rfl rfl ?_
          refine mv_iload_n d_TrustDeskModel_isWord_48 rfl rfl ?_
          refine mv_schC (i := 8) (v := 105) d_TrustDeskModel_isWord_49 lV_TrustDeskModel_220 (by decide) rfl (by decide) (by decide) (Nat.le_of_ble_eq_true rfl) (by decide) ?_
          have := mz_hi v23
          refine mv_icmp_eqZ (tgt := 57) (a := v23.toInt) (b := 105) d_TrustDeskModel_isWord_52 (by decide) rfl (by decide) (fun b26 => ?_) (fun b26 => ?_)
          · refine mv_iinc (v := 3) (lv' := [(2, .int 3), (0, .ref o0), (1, .ref 18)]) d_TrustDeskModel_isWord_57 rfl (by decide) (by decide) rfl ?_
            refine mv_goto (tgt := 28) d_TrustDeskModel_isWord_60 (by decide) ?_
            refine mv_iload_n d_TrustDeskModel_isWord_28 rfl rfl ?_
            refine mv_aload_n d_TrustDeskModel_isWord_29 rfl rfl ?_
            refine mv_slenK (i := 8) (v := 4) d_TrustDeskModel_isWord_30 lV_TrustDeskModel_214 (by decide) rfl (by decide) (Nat.le_of_ble_eq_true rfl) ?_
            refine mv_icmp_ge_f (tgt := 63) d_TrustDeskModel_isWord_33 (by decide) (by decide) ?_
            refine mv_aload_n d_TrustDeskModel_isWord_36 rfl rfl ?_
            refine tr_getK (k := 13) q10 d_TrustDeskModel_isWord_37 f_TrustDeskModel_44_13 ?_
            refine mv_aload_n d_TrustDeskModel_isWord_40 rfl rfl ?_
            refine tr_getK (k := 16) q6 d_TrustDeskModel_isWord_41 f_TrustDeskModel_195_13 ?_
            refine mv_iload_n d_TrustDeskModel_isWord_44 rfl rfl ?_
            refine mv_iadd d_TrustDeskModel_isWord_45 ?_
            have b27 : (v7 + 3 : Int32).toInt = (v7.toInt + 3) := mz_add2 rfl (by decide) (by have := yR.1 15 _ _ rfl; have := yR.1 16 _ _ rfl; have := yR.1 19 _ _ rfl; omega) (by have := yR.1 15 _ _ rfl; have := yR.1 16 _ _ rfl; have := yR.1 19 _ _ rfl; omega)
            refine tr_baldR (o := o0) (k := 13) I0 q10 t_a11 (by decide) d_TrustDeskModel_isWord_46 (vp_in_iff.mpr (by have := yR.1 15 _ _ rfl; have := yR.1 16 _ _ rfl; have := yR.1 19 _ _ rfl; omega)) (fun v28 e29 => ?_)
            have := yR.a (k := 13) rfl ((v7 + 3) : Int32).toNatClampNeg
            have h30 : (v7 + 3).toNatClampNeg = (rv M0 o0 16).toNat + 3 := by have := mz_nat9 (i := (v7 + 3)) (by have := yR.1 15 _ _ rfl; have := yR.1 16 _ _ rfl; have := yR.1 19 _ _ rfl; omega); have := yR.1 15 _ _ rfl; have := yR.1 16 _ _ rfl; have := yR.1 19 _ _ rfl; omega
            have : v28.toInt = ra M0 o0 13 ((rv M0 o0 16).toNat + 3) := by rw [e29, h30]
            refine mv_aload_n d_TrustDeskModel_isWord_47 rfl rfl ?_
            refine mv_iload_n d_TrustDeskModel_isWord_48 rfl rfl ?_
            refine mv_schC (i := 8) (v := 110) d_TrustDeskModel_isWord_49 lV_TrustDeskModel_220 (by decide) rfl (by decide) (by decide) (Nat.le_of_ble_eq_true rfl) (by decide) ?_
            have := mz_hi v28
            refine mv_icmp_eqZ (tgt := 57) (a := v28.toInt) (b := 110) d_TrustDeskModel_isWord_52 (by decide) rfl (by decide) (fun b31 => ?_) (fun b31 => ?_)
            · refine mv_iinc (v := 4) (lv' := [(2, .int 4), (0, .ref o0), (1, .ref 18)]) d_TrustDeskModel_isWord_57 rfl (by decide) (by decide) rfl ?_
              refine mv_goto (tgt := 28) d_TrustDeskModel_isWord_60 (by decide) ?_
              refine mv_iload_n d_TrustDeskModel_isWord_28 rfl rfl ?_
              refine mv_aload_n d_TrustDeskModel_isWord_29 rfl rfl ?_
              refine mv_slenK (i := 8) (v := 4) d_TrustDeskModel_isWord_30 lV_TrustDeskModel_214 (by decide) rfl (by decide) (Nat.le_of_ble_eq_true rfl) ?_
              refine mv_icmp_ge_t (tgt := 63) d_TrustDeskModel_isWord_33 (by decide) (by decide) ?_
              refine mv_iconst (v := 1) d_TrustDeskModel_isWord_63 (by decide) ?_
              exact mv_iret d_TrustDeskModel_isWord_64 rfl (by decide) ⟨_, I0, _, rfl, by decide, by decide, yR, (fun _ => by have := yR.1 15 _ _ rfl; have := yR.1 16 _ _ rfl; have := yR.1 19 _ _ rfl; omega), (fun _ => ⟨by have := yR.1 15 _ _ rfl; have := yR.1 16 _ _ rfl; have := yR.1 19 _ _ rfl; omega, by have := yR.1 15 _ _ rfl; have := yR.1 16 _ _ rfl; have := yR.1 19 _ _ rfl; omega, by have := yR.1 15 _ _ rfl; have := yR.1 16 _ _ rfl; have := yR.1 19 _ _ rfl; omega, by have := yR.1 15 _ _ rfl; have := yR.1 16 _ _ rfl; have := yR.1 19 _ _ rfl; omega, by have := yR.1 15 _ _ rfl; have := yR.1 16 _ _ rfl; have := yR.1 19 _ _ rfl; omega, by have := yR.1 15 _ _ rfl; have := yR.1 16 _ _ rfl; have := yR.1 19 _ _ rfl; omega⟩), (fun h => absurd h (by decide))⟩
            · refine mv_iconst (v := 0) d_TrustDeskModel_isWord_55 (by decide) ?_
              exact mv_iret d_TrustDeskModel_isWord_56 rfl (by decide) ⟨_, I0, _, rfl, by decide, by decide, yR, (fun h => absurd h (by decide)), (fun h => absurd h (by decide)), (fun _ h => by obtain ⟨h1, h2, h3, h4, h5, h6⟩ := h; have := yR.1 15 _ _ rfl; have := yR.1 16 _ _ rfl; have := yR.1 19 _ _ rfl; omega)⟩
          · refine mv_iconst (v := 0) d_TrustDeskModel_isWord_55 (by decide) ?_
            exact mv_iret d_TrustDeskModel_isWord_56 rfl (by decide) ⟨_, I0, _, rfl, by decide, by decide, yR, (fun h => absurd h (by decide)), (fun h => absurd h (by decide)), (fun _ h => by obtain ⟨h1, h2, h3, h4, h5, h6⟩ := h; have := yR.1 15 _ _ rfl; have := yR.1 16 _ _ rfl; have := yR.1 19 _ _ rfl; omega)⟩
        · refine mv_iconst (v := 0) d_TrustDeskModel_isWord_55 (by decide) ?_
          exact mv_iret d_TrustDeskModel_isWord_56 rfl (by decide) ⟨_, I0, _, rfl, by decide, by decide, yR, (fun h => absurd h (by decide)), (fun h => absurd h (by decide)), (fun _ h => by obtain ⟨h1, h2, h3, h4, h5, h6⟩ := h; have := yR.1 15 _ _ rfl; have := yR.1 16 _ _ rfl; have := yR.1 19 _ _ rfl; omega)⟩
      · refine mv_iconst (v := 0) d_TrustDeskModel_isWord_55 (by decide) ?_
        exact mv_iret d_TrustDeskModel_isWord_56 rfl (by decide) ⟨_, I0, _, rfl, by decide, by decide, yR, (fun h => absurd h (by decide)), (fun h => absurd h (by decide)), (fun _ h => by obtain ⟨h1, h2, h3, h4, h5, h6⟩ := h; have := yR.1 15 _ _ rfl; have := yR.1 16 _ _ rfl; have := yR.1 19 _ _ rfl; omega)⟩
    · refine mv_iconst (v := 0) d_TrustDeskModel_isWord_24 (by decide) ?_
      exact mv_iret d_TrustDeskModel_isWord_25 rfl (by decide) ⟨_, I0, _, rfl, by decide, by decide, yR, (fun h => absurd h (by decide)), (fun h => absurd h (by decide)), (fun _ h => by obtain ⟨h1, h2, h3, h4, h5, h6⟩ := h; have := yR.1 15 _ _ rfl; have := yR.1 16 _ _ rfl; have := yR.1 19 _ _ rfl; omega)⟩
theorem d_TrustDeskModel_ruleWord_63 : decode kY_TrustDeskModel_ruleWord.2.1 63 = .ok (.ifCond .eq 7, 3) := by decide +kernel
theorem d_TrustDeskModel_ruleWord_70 : decode kY_TrustDeskModel_ruleWord.2.1 70 = .ok (.aload_n 0, 1) := by decide +kernel
theorem d_TrustDeskModel_ruleWord_71 : decode kY_TrustDeskModel_ruleWord.2.1 71 = .ok (.ldc_w 361, 3) := by decide +kernel
theorem d_TrustDeskModel_ruleWord_74 : decode kY_TrustDeskModel_ruleWord.2.1 74 = .ok (.invokevirtual 244, 3) := by decide +kernel
def w_TrustDeskModel_isWord_s1_19_x : List Nat := []
set_option maxHeartbeats 100000000 in theorem tc_TrustDeskModel_isWord_s1_19_x {g : mj_G} {l : Launch} {d : Nat} {T0 : tm_H} {M0 : mj_M} {n0 x9 : Nat} {o0 : Nat} (h_o0 : T0 o0 = some (0, 13, 0)) (yR : rI M0 o0) (I0 : tm_I tm_FT (tm_in w_TrustDeskModel_isWord_s1_19_x) x9 T0 M0 n0 T0 M0 n0) : mj_Met g l kY_TrustDeskModel_isWord (d + 4) [.ref o0, .ref 19] M0 n0 0 0 (tm_Q tm_FT (tm_in w_TrustDeskModel_isWord_s1_19_x) x9 T0 M0 n0 (fun r _ M => ∃ v : Int32, r = some (.int v) ∧ 0 ≤ v.toInt ∧ v.toInt ≤ 1 ∧ rI M o0 ∧ (v.toInt = 1 → rv M0 o0 17 = 3) ∧ (v.toInt = 1 → rv M0 o0 17 = 3 ∧ rv M0 o0 15 - rv M0 o0 16 = 4 ∧ ra M0 o0 13 ((rv M0 o0 16).toNat + 0) = 115 ∧ ra M0 o0 13 ((rv M0 o0 16).toNat + 1) = 101 ∧ ra M0 o0 13 ((rv M0 o0 16).toNat + 2) = 108 ∧ ra M0 o0 13 ((rv M0 o0 16).toNat + 3) = 108) ∧ (v.toInt = 0 → ¬ (rv M0 o0 17 = 3 ∧ rv M0 o0 15 - rv M0 o0 16 = 4 ∧ ra M0 o0 13 ((rv M0 o0 16).toNat + 0) = 115 ∧ ra M0 o0 13 ((rv M0 o0 16).toNat + 1) = 101 ∧ ra M0 o0 13 ((rv M0 o0 16).toNat + 2) = 108 ∧ ra M0 o0 13 ((rv M0 o0 16).toNat + 3) = 108)))) := by
  refine mj_enter (by decide) (Nat.le_of_ble_eq_true rfl) ?_
  refine mv_aload_n d_TrustDeskModel_isWord_0 rfl rfl ?_
  obtain ⟨v2, q1⟩ := tm_atI I0 h_o0 (k := 17) rfl
  refine tr_getK q1 d_TrustDeskModel_isWord_1 f_TrustDeskModel_198_13 ?_
  have := tm_rv q1
  refine mv_iconst (v := 3) d_TrustDeskModel_isWord_4 (by decide) ?_
  have := mz_hi v2
  refine mv_icmp_neZ (tgt := 24) (a := v2.toInt) (b := 3) d_TrustDeskModel_isWord_5 (by decide) rfl (by decide) (fun b3 => ?_) (fun b3 => ?_)
  · refine mv_iconst (v := 0) d_TrustDeskModel_isWord_24 (by decide) ?_
    exact mv_iret d_TrustDeskModel_isWord_25 rfl (by decide) ⟨_, I0, _, rfl, by decide, by decide, yR, (fun h => absurd h (by decide)), (fun h => absurd h (by decide)), (fun _ h => by obtain ⟨h1, h2, h3, h4, h5, h6⟩ := h; have := yR.1 15 _ _ rfl; have := yR.1 16 _ _ rfl; have := yR.1 19 _ _ rfl; omega)⟩
  · refine mv_aload_n d_TrustDeskModel_isWord_8 rfl rfl ?_
    obtain ⟨v5, q4⟩ := tm_atI I0 h_o0 (k := 15) rfl
    refine tr_getK q4 d_TrustDeskModel_isWord_9 f_TrustDeskModel_192_13 ?_
    have := yR.f (k := 15) q4 rfl
    have := tm_rv q4
    refine mv_aload_n d_TrustDeskModel_isWord_12 rfl rfl ?_
    obtain ⟨v7, q6⟩ := tm_atI I0 h_o0 (k := 16) rfl
    refine tr_getK q6 d_TrustDeskModel_isWord_13 f_TrustDeskModel_195_13 ?_
    have := yR.f (k := 16) q6 rfl
    have := tm_rv q6
    refine mv_isub d_TrustDeskModel_isWord_16 ?_
    refine mv_aload_n d_TrustDeskModel_isWord_17 rfl rfl ?_
    refine mv_slenK (i := 9) (v := 4) d_TrustDeskModel_isWord_18 lV_TrustDeskModel_214 (by decide) rfl (by decide) (Nat.le_of_ble_eq_true rfl) ?_
    have b8 : (v5 - v7 : Int32).toInt = (v5.toInt - v7.toInt) := mz_sub2 rfl rfl (by have := yR.1 15 _ _ rfl; have := yR.1 16 _ _ rfl; have := yR.1 19 _ _ rfl; omega) (by have := yR.1 15 _ _ rfl; have := yR.1 16 _ _ rfl; have := yR.1 19 _ _ rfl; omega)
    have := mz_hi (v5 - v7)
    refine mv_icmp_eqZ (tgt := 26) (a := (v5 - v7).toInt) (b := 4) d_TrustDeskModel_isWord_21 (by decide) rfl (by decide) (fun b9 => ?_) (fun b9 => ?_)
    · refine mv_iconst (v := 0) d_TrustDeskModel_isWord_26 (by decide) ?_
      refine mv_istore_n (lv' := [(2, .int 0), (0, .ref o0), (1, .ref 19)]) d_TrustDeskModel_isWord_27 rfl (by decide) rfl ?_
      refine mv_iload_n d_TrustDeskModel_isWord_28 rfl rfl ?_
      refine mv_aload_n d_TrustDeskModel_isWord_29 rfl rfl ?_
      refine mv_slenK (i := 9) (v := 4) d_TrustDeskModel_isWord_30 lV_TrustDeskModel_214 (by decide) rfl (by decide) (Nat.le_of_ble_eq_true rfl) ?_
      refine mv_icmp_ge_f (tgt := 63) d_TrustDeskModel_isWord_33 (by decide) (by decide) ?_
      refine mv_aload_n d_TrustDeskModel_isWord_36 rfl rfl ?_
      obtain ⟨a11, q10, t_a11⟩ := tm_atR I0 h_o0 (k := 13) rfl
      refine tr_getK q10 d_TrustDeskModel_isWord_37 f_TrustDeskModel_44_13 ?_
      refine mv_aload_n d_TrustDeskModel_isWord_40 rfl rfl ?_
      refine tr_getK (k := 16) q6 d_TrustDeskModel_isWord_41 f_TrustDeskModel_195_13 ?_
      refine mv_iload_n d_TrustDeskModel_isWord_44 rfl rfl ?_
      refine mv_iadd d_TrustDeskModel_isWord_45 ?_
      have b12 : (v7 + 0 : Int32).toInt = (v7.toInt + 0) := mz_add2 rfl (by decide) (by have := yR.1 15 _ _ rfl; have := yR.1 16 _ _ rfl; have := yR.1 19 _ _ rfl; omega) (by have := yR.1 15 _ _ rfl; have := yR.1 16 _ _ rfl; have := yR.1 19 _ _ rfl; omega)
      refine tr_baldR (o := o0) (k := 13) I0 q10 t_a11 (by decide) d_TrustDeskModel_isWord_46 (vp_in_iff.mpr (by have := yR.1 15 _ _ rfl; have := yR.1 16 _ _ rfl; have := yR.1 19 _ _ rfl; omega)) (fun v13 e14 => ?_)
      have := yR.a (k := 13) rfl ((v7 + 0) : Int32).toNatClampNeg
      have h15 : (v7 + 0).toNatClampNeg = (rv M0 o0 16).toNat + 0 := by have := mz_nat9 (i := (v7 + 0)) (by have := yR.1 15 _ _ rfl; have := yR.1 16 _ _ rfl; have := yR.1 19 _ _ rfl; omega); have := yR.1 15 _ _ rfl; have := yR.1 16 _ _ rfl; have := yR.1 19 _ _ rfl; omega
      have : v13.toInt = ra M0 o0 13 ((rv M0 o0 16).toNat + 0) := by rw [e14, h15]
      refine mv_aload_n d_TrustDeskModel_isWord_47 rfl rfl ?_
      refine mv_iload_n d_TrustDeskModel_isWord_48 rfl rfl ?_
      refine mv_schC (i := 9) (v := 115) d_TrustDeskModel_isWord_49 lV_TrustDeskModel_220 (by decide) rfl (by decide) (by decide) (Nat.le_of_ble_eq_true rfl) (by decide) ?_
      have := mz_hi v13
      refine mv_icmp_eqZ (tgt := 57) (a := v13.toInt) (b := 115) d_TrustDeskModel_isWord_52 (by decide) rfl (by decide) (fun b16 => ?_) (fun b16 => ?_)
      · refine mv_iinc (v := 1) (lv' := [(2, .int 1), (0, .ref o0), (1, .ref 19)]) d_TrustDeskModel_isWord_57 rfl (by decide) (by decide) rfl ?_
        refine mv_goto (tgt := 28) d_TrustDeskModel_isWord_60 (by decide) ?_
        refine mv_iload_n d_TrustDeskModel_isWord_28 rfl rfl ?_
        refine mv_aload_n d_TrustDeskModel_isWord_29 rfl rfl ?_
        refine mv_slenK (i := 9) (v := 4) d_TrustDeskModel_isWord_30 lV_TrustDeskModel_214 (by decide) rfl (by decide) (Nat.le_of_ble_eq_true rfl) ?_
        refine mv_icmp_ge_f (tgt := 63) d_TrustDeskModel_isWord_33 (by decide) (by decide) ?_
        refine mv_aload_n d_TrustDeskModel_isWord_36 rfl rfl ?_
        refine tr_getK (k := 13) q10 d_TrustDeskModel_isWord_37 f_TrustDeskModel_44_13 ?_
        refine mv_aload_n d_TrustDeskModel_isWord_40 rfl rfl ?_
        refine tr_getK (k := 16) q6 d_TrustDeskModel_isWord_41 f_TrustDeskModel_195_13 ?_
        refine mv_iload_n d_TrustDeskModel_isWord_44 rfl rfl ?_
        refine mv_iadd d_TrustDeskModel_isWord_45 ?_
        have b17 : (v7 + 1 : Int32).toInt = (v7.toInt + 1) := mz_add2 rfl (by decide) (by have := yR.1 15 _ _ rfl; have := yR.1 16 _ _ rfl; have := yR.1 19 _ _ rfl; omega) (by have := yR.1 15 _ _ rfl; have := yR.1 16 _ _ rfl; have := yR.1 19 _ _ rfl; omega)
        refine tr_baldR (o := o0) (k := 13) I0 q10 t_a11 (by decide) d_TrustDeskModel_isWord_46 (vp_in_iff.mpr (by have := yR.1 15 _ _ rfl; have := yR.1 16 _ _ rfl; have := yR.1 19 _ _ rfl; omega)) (fun v18 e19 => ?_)
        have := yR.a (k := 13) rfl ((v7 + 1) : Int32).toNatClampNeg
        have h20 : (v7 + 1).toNatClampNeg = (rv M0 o0 16).toNat + 1 := by have := mz_nat9 (i := (v7 + 1)) (by have := yR.1 15 _ _ rfl; have := yR.1 16 _ _ rfl; have := yR.1 19 _ _ rfl; omega); have := yR.1 15 _ _ rfl; have := yR.1 16 _ _ rfl; have := yR.1 19 _ _ rfl; omega
        have : v18.toInt = ra M0 o0 13 ((rv M0 o0 16).toNat + 1) := by rw [e19, h20]
        refine mv_aload_n d_TrustDeskModel_isWord_47 rfl rfl ?_
        refine mv_iload_n d_TrustDeskModel_isWord_48 rfl rfl ?_
        refine mv_schC (i := 9) (v := 101) d_TrustDeskModel_isWord_49 lV_TrustDeskModel_220 (by decide) rfl (by decide) (by decide) (Nat.le_of_ble_eq_true rfl) (by decide) ?_
        have := mz_hi v18
        refine mv_icmp_eqZ (tgt := 57) (a := v18.toInt) (b := 101) d_TrustDeskModel_isWord_52 (by decide) rfl (by decide) (fun b21 => ?_) (fun b21 => ?_)
        · refine mv_iinc (v := 2) (lv' := [(2, .int 2), (0, .ref o0), (1, .ref 19)]) d_TrustDeskModel_isWord_57 rfl (by decide) (by decide) rfl ?_
          refine mv_goto (tgt := 28) d_TrustDeskModel_isWord_60 (by decide) ?_
          refine mv_iload_n d_TrustDeskModel_isWord_28 rfl rfl ?_
          refine mv_aload_n d_TrustDeskModel_isWord_29 rfl rfl ?_
          refine mv_slenK (i := 9) (v := 4) d_TrustDeskModel_isWord_30 lV_TrustDeskModel_214 (by decide) rfl (by decide) (Nat.le_of_ble_eq_true rfl) ?_
          refine mv_icmp_ge_f (tgt := 63) d_TrustDeskModel_isWord_33 (by decide) (by decide) ?_
          refine mv_aload_n d_TrustDeskModel_isWord_36 rfl rfl ?_
          refine tr_getK (k := 13) q10 d_TrustDeskModel_isWord_37 f_TrustDeskModel_44_13 ?_
          refine mv_aload_n d_TrustDeskModel_isWord_40 rfl rfl ?_
          refine tr_getK (k := 16) q6 d_TrustDeskModel_isWord_41 f_TrustDeskModel_195_13 ?_
          refine mv_iload_n d_TrustDeskModel_isWord_44 rfl rfl ?_
          refine mv_iadd d_TrustDeskModel_isWord_45 ?_
          have b22 : (v7 + 2 : Int32).toInt = (v7.toInt + 2) := mz_add2 rfl (by decide) (by have := yR.1 15 _ _ rfl; have := yR.1 16 _ _ rfl; have := yR.1 19 _ _ rfl; omega) (by have := yR.1 15 _ _ rfl; have := yR.1 16 _ _ rfl; have := yR.1 19 _ _ rfl; omega)
          refine tr_baldR (o := o0) (k := 13) I0 q10 t_a11 (by decide) d_TrustDeskModel_isWord_46 (vp_in_iff.mpr (by have := yR.1 15 _ _ rfl; have := yR.1 16 _ _ rfl; have := yR.1 19 _ _ rfl; omega)) (fun v23 e24 => ?_)
          have := yR.a (k := 13) rfl ((v7 + 2) : Int32).toNatClampNeg
          have h25 : (v7 + 2).toNatClampNeg = (rv M0 o0 16).toNat + 2 := by have := mz_nat9 (i := (v7 + 2)) (by have := yR.1 15 _ _ rfl; have := yR.1 16 _ _ rfl; have := yR.1 19 _ _ rfl; omega); have := yR.1 15 _ _ rfl; have := yR.1 16 _ _ rfl; have := yR.1 19 _ _ rfl; omega
          have : v23.toInt = ra M0 o0 13 ((rv M0 o0 16).toNat + 2) := by rw [e24, h25]
          refine mv_aload_n d_TrustDeskModel_isWord_47 rfl rfl ?_
          refine mv_iload_n d_TrustDeskModel_isWord_48 rfl rfl ?_
          refine mv_schC (i := 9) (v := 108) d_TrustDeskModel_isWord_49 lV_TrustDeskModel_220 (by decide) rfl (by decide) (by decide) (Nat.le_of_ble_eq_true rfl) (by decide) ?_
          have := mz_hi v23
          refine mv_icmp_eqZ (tgt := 57) (a := v23.toInt) (b := 108) d_TrustDeskModel_isWord_52 (by decide) rfl (by decide) (fun b26 => ?_) (fun b26 => ?_)
          · refine mv_iinc (v := 3) (lv' := [(2, .int 3), (0, .ref o0), (1, .ref 19)]) d_TrustDeskModel_isWord_57 rfl (by decide) (by decide) rfl ?_
            refine mv_goto (tgt := 28) d_TrustDeskModel_isWord_60 (by decide) ?_
            refine mv_iload_n d_TrustDeskModel_isWord_28 rfl rfl ?_
            refine mv_aload_n d_TrustDeskModel_isWord_29 rfl rfl ?_
            refine mv_slenK (i := 9) (v := 4) d_TrustDeskModel_isWord_30 lV_TrustDeskModel_214 (by decide) rfl (by decide) (Nat.le_of_ble_eq_true rfl) ?_
            refine mv_icmp_ge_f (tgt := 63) d_TrustDeskModel_isWord_33 (by decide) (by decide) ?_
            refine mv_aload_n d_TrustDeskModel_isWord_36 rfl rfl ?_
            refine tr_getK (k := 13) q10 d_TrustDeskModel_isWord_37 f_TrustDeskModel_44_13 ?_
            refine mv_aload_n d_TrustDeskModel_isWord_40 rfl rfl ?_
            refine tr_getK (k := 16) q6 d_TrustDeskModel_isWord_41 f_TrustDeskModel_195_13 ?_
            refine mv_iload_n d_TrustDeskModel_isWord_44 rfl rfl ?_
            refine mv_iadd d_TrustDeskModel_isWord_45 ?_
            have b27 : (v7 + 3 : Int32).toInt = (v7.toInt + 3) := mz_add2 rfl (by decide) (by have := yR.1 15 _ _ rfl; have := yR.1 16 _ _ rfl; have := yR.1 19 _ _ rfl; omega) (by have := yR.1 15 _ _ rfl; have := yR.1 16 _ _ rfl; have := yR.1 19 _ _ rfl; omega)
            refine tr_baldR (o := o0) (k := 13) I0 q10 t_a11 (by decide) d_TrustDeskModel_isWord_46 (vp_in_iff.mpr (by have := yR.1 15 _ _ rfl; have := yR.1 16 _ _ rfl; have := yR.1 19 _ _ rfl; omega)) (fun v28 e29 => ?_)
            have := yR.a (k := 13) rfl ((v7 + 3) : Int32).toNatClampNeg
            have h30 : (v7 + 3).toNatClampNeg = (rv M0 o0 16).toNat + 3 := by have := mz_nat9 (i := (v7 + 3)) (by have := yR.1 15 _ _ rfl; have := yR.1 16 _ _ rfl; have := yR.1 19 _ _ rfl; omega); have := yR.1 15 _ _ rfl; have := yR.1 16 _ _ rfl; have := yR.1 19 _ _ rfl; omega
            have : v28.toInt = ra M0 o0 13 ((rv M0 o0 16).toNat + 3) := by rw [e29, h30]
            refine mv_aload_n d_TrustDeskModel_isWord_47 rfl rfl ?_
            refine mv_iload_n d_TrustDeskModel_isWord_48 rfl rfl ?_
            refine mv_schC (i := 9) (v := 108) d_TrustDeskModel_isWord_49 lV_TrustDeskModel_220 (by decide) rfl (by decide) (by decide) (Nat.le_of_ble_eq_true rfl) (by decide) ?_
            have := mz_hi v28
            refine mv_icmp_eqZ (tgt := 57) (a := v28.toInt) (b := 108) d_TrustDeskModel_isWord_52 (by decide) rfl (by decide) (fun b31 => ?_) (fun b31 => ?_)
            · refine mv_iinc (v := 4) (lv' := [(2, .int 4), (0, .ref o0), (1, .ref 19)]) d_TrustDeskModel_isWord_57 rfl (by decide) (by decide) rfl ?_
              refine mv_goto (tgt := 28) d_TrustDeskModel_isWord_60 (by decide) ?_
              refine mv_iload_n d_TrustDeskModel_isWord_28 rfl rfl ?_
              refine mv_aload_n d_TrustDeskModel_isWord_29 rfl rfl ?_
              refine mv_slenK (i := 9) (v := 4) d_TrustDeskModel_isWord_30 lV_TrustDeskModel_214 (by decide) rfl (by decide) (Nat.le_of_ble_eq_true rfl) ?_
              refine mv_icmp_ge_t (tgt := 63) d_TrustDeskModel_isWord_33 (by decide) (by decide) ?_
              refine mv_iconst (v := 1) d_TrustDeskModel_isWord_63 (by decide) ?_
              exact mv_iret d_TrustDeskModel_isWord_64 rfl (by decide) ⟨_, I0, _, rfl, by decide, by decide, yR, (fun _ => by have := yR.1 15 _ _ rfl; have := yR.1 16 _ _ rfl; have := yR.1 19 _ _ rfl; omega), (fun _ => ⟨by have := yR.1 15 _ _ rfl; have := yR.1 16 _ _ rfl; have := yR.1 19 _ _ rfl; omega, by have := yR.1 15 _ _ rfl; have := yR.1 16 _ _ rfl; have := yR.1 19 _ _ rfl; omega, by have := yR.1 15 _ _ rfl; have := yR.1 16 _ _ rfl; have := yR.1 19 _ _ rfl; omega, by have := yR.1 15 _ _ rfl; have := yR.1 16 _ _ rfl; have := yR.1 19 _ _ rfl; omega, by have := yR.1 15 _ _ rfl; have := yR.1 16 _ _ rfl; have := yR.1 19 _ _ rfl; omega, by have := yR.1 15 _ _ rfl; have := yR.1 16 _ _ rfl; have := yR.1 19 _ _ rfl; omega⟩), (fun h => absurd h (by decide))⟩
            · refine mv_iconst (v := 0) d_TrustDeskModel_isWord_55 (by decide) ?_
              exact mv_iret d_TrustDeskModel_isWord_56 rfl (by decide) ⟨_, I0, _, rfl, by decide, by decide, yR, (fun h => absurd h (by decide)), (fun h => absurd h (by decide)), (fun _ h => by obtain ⟨h1, h2, h3, h4, h5, h6⟩ := h; have := yR.1 15 _ _ rfl; have := yR.1 16 _ _ rfl; have := yR.1 19 _ _ rfl; omega)⟩
          · refine mv_iconst (v := 0) d_TrustDeskModel_isWord_55 (by decide) ?_
            exact mv_iret d_TrustDeskModel_isWord_56 rfl (by decide) ⟨_, I0, _, rfl, by decide, by decide, yR, (fun h => absurd h (by decide)), (fun h => absurd h (by decide)), (fun _ h => by obtain ⟨h1, h2, h3, h4, h5, h6⟩ := h; have := yR.1 15 _ _ rfl; have := yR.1 16 _ _ rfl; have := yR.1 19 _ _ rfl; omega)⟩
        · refine mv_iconst (v := 0) d_TrustDeskModel_isWord_55 (by decide) ?_
          exact mv_iret d_TrustDeskModel_isWord_56 rfl (by decide) ⟨_, I0, _, rfl, by decide, by decide, yR, (fun h => absurd h (by decide)), (fun h => absurd h (by decide)), (fun _ h => by obtain ⟨h1, h2, h3, h4, h5, h6⟩ := h; have := yR.1 15 _ _ rfl; have := yR.1 16 _ _ rfl; have := yR.1 19 _ _ rfl; omega)⟩
      · refine mv_iconst (v := 0) d_TrustDeskModel_isWord_55 (by decide) ?_
        exact mv_iret d_TrustDeskModel_isWord_56 rfl (by decide) ⟨_, I0, _, rfl, by decide, by decide, yR, (fun h => absurd h (by decide)), (fun h => absurd h (by decide)), (fun _ h => by obtain ⟨h1, h2, h3, h4, h5, h6⟩ := h; have := yR.1 15 _ _ rfl; have := yR.1 16 _ _ rfl; have := yR.1 19 _ _ rfl; omega)⟩
    · refine mv_iconst (v := 0) d_TrustDeskModel_isWord_24 (by decide) ?_
      exact mv_iret d_TrustDeskModel_isWord_25 rfl (by decide) ⟨_, I0, _, rfl, by decide, by decide, yR, (fun h => absurd h (by decide)), (fun h => absurd h (by decide)), (fun _ h => by obtain ⟨h1, h2, h3, h4, h5, h6⟩ := h; have := yR.1 15 _ _ rfl; have := yR.1 16 _ _ rfl; have := yR.1 19 _ _ rfl; omega)⟩
theorem d_TrustDeskModel_ruleWord_77 : decode kY_TrustDeskModel_ruleWord.2.1 77 = .ok (.ifCond .eq 7, 3) := by decide +kernel
theorem d_TrustDeskModel_ruleWord_84 : decode kY_TrustDeskModel_ruleWord.2.1 84 = .ok (.aload_n 0, 1) := by decide +kernel
theorem d_TrustDeskModel_ruleWord_85 : decode kY_TrustDeskModel_ruleWord.2.1 85 = .ok (.ldc_w 363, 3) := by decide +kernel
theorem d_TrustDeskModel_ruleWord_88 : decode kY_TrustDeskModel_ruleWord.2.1 88 = .ok (.invokevirtual 244, 3) := by decide +kernel
def w_TrustDeskModel_isWord_s1_20_x : List Nat := []
set_option maxHeartbeats 100000000 in theorem tc_TrustDeskModel_isWord_s1_20_x {g : mj_G} {l : Launch} {d : Nat} {T0 : tm_H} {M0 : mj_M} {n0 x9 : Nat} {o0 : Nat} (h_o0 : T0 o0 = some (0, 13, 0)) (yR : rI M0 o0) (I0 : tm_I tm_FT (tm_in w_TrustDeskModel_isWord_s1_20_x) x9 T0 M0 n0 T0 M0 n0) : mj_Met g l kY_TrustDeskModel_isWord (d + 4) [.ref o0, .ref 20] M0 n0 0 0 (tm_Q tm_FT (tm_in w_TrustDeskModel_isWord_s1_20_x) x9 T0 M0 n0 (fun r _ M => ∃ v : Int32, r = some (.int v) ∧ 0 ≤ v.toInt ∧ v.toInt ≤ 1 ∧ rI M o0 ∧ (v.toInt = 1 → rv M0 o0 17 = 3) ∧ (v.toInt = 1 → rv M0 o0 17 = 3 ∧ rv M0 o0 15 - rv M0 o0 16 = 3 ∧ ra M0 o0 13 ((rv M0 o0 16).toNat + 0) = 98 ∧ ra M0 o0 13 ((rv M0 o0 16).toNat + 1) = 97 ∧ ra M0 o0 13 ((rv M0 o0 16).toNat + 2) = 114) ∧ (v.toInt = 0 → ¬ (rv M0 o0 17 = 3 ∧ rv M0 o0 15 - rv M0 o0 16 = 3 ∧ ra M0 o0 13 ((rv M0 o0 16).toNat + 0) = 98 ∧ ra M0 o0 13 ((rv M0 o0 16).toNat + 1) = 97 ∧ ra M0 o0 13 ((rv M0 o0 16).toNat + 2) = 114)))) := by
  refine mj_enter (by decide) (Nat.le_of_ble_eq_true rfl) ?_
  refine mv_aload_n d_TrustDeskModel_isWord_0 rfl rfl ?_
  obtain ⟨v2, q1⟩ := tm_atI I0 h_o0 (k := 17) rfl
  refine tr_getK q1 d_TrustDeskModel_isWord_1 f_TrustDeskModel_198_13 ?_
  have := tm_rv q1
  refine mv_iconst (v := 3) d_TrustDeskModel_isWord_4 (by decide) ?_
  have := mz_hi v2
  refine mv_icmp_neZ (tgt := 24) (a := v2.toInt) (b := 3) d_TrustDeskModel_isWord_5 (by decide) rfl (by decide) (fun b3 => ?_) (fun b3 => ?_)
  · refine mv_iconst (v := 0) d_TrustDeskModel_isWord_24 (by decide) ?_
    exact mv_iret d_TrustDeskModel_isWord_25 rfl (by decide) ⟨_, I0, _, rfl, by decide, by decide, yR, (fun h => absurd h (by decide)), (fun h => absurd h (by decide)), (fun _ h => by obtain ⟨h1, h2, h3, h4, h5⟩ := h; have := yR.1 15 _ _ rfl; have := yR.1 16 _ _ rfl; have := yR.1 19 _ _ rfl; omega)⟩
  · refine mv_aload_n d_TrustDeskModel_isWord_8 rfl rfl ?_
    obtain ⟨v5, q4⟩ := tm_atI I0 h_o0 (k := 15) rfl
    refine tr_getK q4 d_TrustDeskModel_isWord_9 f_TrustDeskModel_192_13 ?_
    have := yR.f (k := 15) q4 rfl
    have := tm_rv q4
    refine mv_aload_n d_TrustDeskModel_isWord_12 rfl rfl ?_
    obtain ⟨v7, q6⟩ := tm_atI I0 h_o0 (k := 16) rfl
    refine tr_getK q6 d_TrustDeskModel_isWord_13 f_TrustDeskModel_195_13 ?_
    have := yR.f (k := 16) q6 rfl
    have := tm_rv q6
    refine mv_isub d_TrustDeskModel_isWord_16 ?_
    refine mv_aload_n d_TrustDeskModel_isWord_17 rfl rfl ?_
    refine mv_slenK (i := 10) (v := 3) d_TrustDeskModel_isWord_18 lV_TrustDeskModel_214 (by decide) rfl (by decide) (Nat.le_of_ble_eq_true rfl) ?_
    have b8 : (v5 - v7 : Int32).toInt = (v5.toInt - v7.toInt) := mz_sub2 rfl rfl (by have := yR.1 15 _ _ rfl; have := yR.1 16 _ _ rfl; have := yR.1 19 _ _ rfl; omega) (by have := yR.1 15 _ _ rfl; have := yR.1 16 _ _ rfl; have := yR.1 19 _ _ rfl; omega)
    have := mz_hi (v5 - v7)
    refine mv_icmp_eqZ (tgt := 26) (a := (v5 - v7).toInt) (b := 3) d_TrustDeskModel_isWord_21 (by decide) rfl (by decide) (fun b9 => ?_) (fun b9 => ?_)
    · refine mv_iconst (v := 0) d_TrustDeskModel_isWord_26 (by decide) ?_
      refine mv_istore_n (lv' := [(2, .int 0), (0, .ref o0), (1, .ref 20)]) d_TrustDeskModel_isWord_27 rfl (by decide) rfl ?_
      refine mv_iload_n d_TrustDeskModel_isWord_28 rfl rfl ?_
      refine mv_aload_n d_TrustDeskModel_isWord_29 rfl rfl ?_
      refine mv_slenK (i := 10) (v := 3) d_TrustDeskModel_isWord_30 lV_TrustDeskModel_214 (by decide) rfl (by decide) (Nat.le_of_ble_eq_true rfl) ?_
      refine mv_icmp_ge_f (tgt := 63) d_TrustDeskModel_isWord_33 (by decide) (by decide) ?_
      refine mv_aload_n d_TrustDeskModel_isWord_36 rfl rfl ?_
      obtain ⟨a11, q10, t_a11⟩ := tm_atR I0 h_o0 (k := 13) rfl
      refine tr_getK q10 d_TrustDeskModel_isWord_37 f_TrustDeskModel_44_13 ?_
      refine mv_aload_n d_TrustDeskModel_isWord_40 rfl rfl ?_
      refine tr_getK (k := 16) q6 d_TrustDeskModel_isWord_41 f_TrustDeskModel_195_13 ?_
      refine mv_iload_n d_TrustDeskModel_isWord_44 rfl rfl ?_
      refine mv_iadd d_TrustDeskModel_isWord_45 ?_
      have b12 : (v7 + 0 : Int32).toInt = (v7.toInt + 0) := mz_add2 rfl (by decide) (by have := yR.1 15 _ _ rfl; have := yR.1 16 _ _ rfl; have := yR.1 19 _ _ rfl; omega) (by have := yR.1 15 _ _ rfl; have := yR.1 16 _ _ rfl; have := yR.1 19 _ _ rfl; omega)
      refine tr_baldR (o := o0) (k := 13) I0 q10 t_a11 (by decide) d_TrustDeskModel_isWord_46 (vp_in_iff.mpr (by have := yR.1 15 _ _ rfl; have := yR.1 16 _ _ rfl; have := yR.1 19 _ _ rfl; omega)) (fun v13 e14 => ?_)
      have := yR.a (k := 13) rfl ((v7 + 0) : Int32).toNatClampNeg
      have h15 : (v7 + 0).toNatClampNeg = (rv M0 o0 16).toNat + 0 := by have := mz_nat9 (i := (v7 + 0)) (by have := yR.1 15 _ _ rfl; have := yR.1 16 _ _ rfl; have := yR.1 19 _ _ rfl; omega); have := yR.1 15 _ _ rfl; have := yR.1 16 _ _ rfl; have := yR.1 19 _ _ rfl; omega
      have : v13.toInt = ra M0 o0 13 ((rv M0 o0 16).toNat + 0) := by rw [e14, h15]
      refine mv_aload_n d_TrustDeskModel_isWord_47 rfl rfl ?_
      refine mv_iload_n d_TrustDeskModel_isWord_48 rfl rfl ?_
      refine mv_schC (i := 10) (v := 98) d_TrustDeskModel_isWord_49 lV_TrustDeskModel_220 (by decide) rfl (by decide) (by decide) (Nat.le_of_ble_eq_true rfl) (by decide) ?_
      have := mz_hi v13
      refine mv_icmp_eqZ (tgt := 57) (a := v13.toInt) (b := 98) d_TrustDeskModel_isWord_52 (by decide) rfl (by decide) (fun b16 => ?_) (fun b16 => ?_)
      · refine mv_iinc (v := 1) (lv' := [(2, .int 1), (0, .ref o0), (1, .ref 20)]) d_TrustDeskModel_isWord_57 rfl (by decide) (by decide) rfl ?_
        refine mv_goto (tgt := 28) d_TrustDeskModel_isWord_60 (by decide) ?_
        refine mv_iload_n d_TrustDeskModel_isWord_28 rfl rfl ?_
        refine mv_aload_n d_TrustDeskModel_isWord_29 rfl rfl ?_
        refine mv_slenK (i := 10) (v := 3) d_TrustDeskModel_isWord_30 lV_TrustDeskModel_214 (by decide) rfl (by decide) (Nat.le_of_ble_eq_true rfl) ?_
        refine mv_icmp_ge_f (tgt := 63) d_TrustDeskModel_isWord_33 (by decide) (by decide) ?_
        refine mv_aload_n d_TrustDeskModel_isWord_36 rfl rfl ?_
        refine tr_getK (k := 13) q10 d_TrustDeskModel_isWord_37 f_TrustDeskModel_44_13 ?_
        refine mv_aload_n d_TrustDeskModel_isWord_40 rfl rfl ?_
        refine tr_getK (k := 16) q6 d_TrustDeskModel_isWord_41 f_TrustDeskModel_195_13 ?_
        refine mv_iload_n d_TrustDeskModel_isWord_44 rfl rfl ?_
        refine mv_iadd d_TrustDeskModel_isWord_45 ?_
        have b17 : (v7 + 1 : Int32).toInt = (v7.toInt + 1) := mz_add2 rfl (by decide) (by have := yR.1 15 _ _ rfl; have := yR.1 16 _ _ rfl; have := yR.1 19 _ _ rfl; omega) (by have := yR.1 15 _ _ rfl; have := yR.1 16 _ _ rfl; have := yR.1 19 _ _ rfl; omega)
        refine tr_baldR (o := o0) (k := 13) I0 q10 t_a11 (by decide) d_TrustDeskModel_isWord_46 (vp_in_iff.mpr (by have := yR.1 15 _ _ rfl; have := yR.1 16 _ _ rfl; have := yR.1 19 _ _ rfl; omega)) (fun v18 e19 => ?_)
        have := yR.a (k := 13) rfl ((v7 + 1) : Int32).toNatClampNeg
        have h20 : (v7 + 1).toNatClampNeg = (rv M0 o0 16).toNat + 1 := by have := mz_nat9 (i := (v7 + 1)) (by have := yR.1 15 _ _ rfl; have := yR.1 16 _ _ rfl; have := yR.1 19 _ _ rfl; omega); have := yR.1 15 _ _ rfl; have := yR.1 16 _ _ rfl; have := yR.1 19 _ _ rfl; omega
        have : v18.toInt = ra M0 o0 13 ((rv M0 o0 16).toNat + 1) := by rw [e19, h20]
        refine mv_aload_n d_TrustDeskModel_isWord_47 rfl rfl ?_
        refine mv_iload_n d_TrustDeskModel_isWord_48 rfl rfl ?_
        refine mv_schC (i := 10) (v := 97) d_TrustDeskModel_isWord_49 lV_TrustDeskModel_220 (by decide) rfl (by decide) (by decide) (Nat.le_of_ble_eq_true rfl) (by decide) ?_
        have := mz_hi v18
        refine mv_icmp_eqZ (tgt := 57) (a := v18.toInt) (b := 97) d_TrustDeskModel_isWord_52 (by decide) rfl (by decide) (fun b21 => ?_) (fun b21 => ?_)
        · refine mv_iinc (v := 2) (lv' := [(2, .int 2), (0, .ref o0), (1, .ref 20)]) d_TrustDeskModel_isWord_57 rfl (by decide) (by decide) rfl ?_
          refine mv_goto (tgt := 28) d_TrustDeskModel_isWord_60 (by decide) ?_
          refine mv_iload_n d_TrustDeskModel_isWord_28 rfl rfl ?_
          refine mv_aload_n d_TrustDeskModel_isWord_29 rfl rfl ?_
          refine mv_slenK (i := 10) (v := 3) d_TrustDeskModel_isWord_30 lV_TrustDeskModel_214 (by decide) rfl (by decide) (Nat.le_of_ble_eq_true rfl) ?_
          refine mv_icmp_ge_f (tgt := 63) d_TrustDeskModel_isWord_33 (by decide) (by decide) ?_
          refine mv_aload_n d_TrustDeskModel_isWord_36 rfl rfl ?_
          refine tr_getK (k := 13) q10 d_TrustDeskModel_isWord_37 f_TrustDeskModel_44_13 ?_
          refine mv_aload_n d_TrustDeskModel_isWord_40 rfl rfl ?_
          refine tr_getK (k := 16) q6 d_TrustDeskModel_isWord_41 f_TrustDeskModel_195_13 ?_
          refine mv_iload_n d_TrustDeskModel_isWord_44 rfl rfl ?_
          refine mv_iadd d_TrustDeskModel_isWord_45 ?_
          have b22 : (v7 + 2 : Int32).toInt = (v7.toInt + 2) := mz_add2 rfl (by decide) (by have := yR.1 15 _ _ rfl; have := yR.1 16 _ _ rfl; have := yR.1 19 _ _ rfl; omega) (by have := yR.1 15 _ _ rfl; have := yR.1 16 _ _ rfl; have := yR.1 19 _ _ rfl; omega)
          refine tr_baldR (o := o0) (k := 13) I0 q10 t_a11 (by decide) d_TrustDeskModel_isWord_46 (vp_in_iff.mpr (by have := yR.1 15 _ _ rfl; have := yR.1 16 _ _ rfl; have := yR.1 19 _ _ rfl; omega)) (fun v23 e24 => ?_)
          have := yR.a (k := 13) rfl ((v7 + 2) : Int32).toNatClampNeg
          have h25 : (v7 + 2).toNatClampNeg = (rv M0 o0 16).toNat + 2 := by have := mz_nat9 (i := (v7 + 2)) (by have := yR.1 15 _ _ rfl; have := yR.1 16 _ _ rfl; have := yR.1 19 _ _ rfl; omega); have := yR.1 15 _ _ rfl; have := yR.1 16 _ _ rfl; have := yR.1 19 _ _ rfl; omega
          have : v23.toInt = ra M0 o0 13 ((rv M0 o0 16).toNat + 2) := by rw [e24, h25]
          refine mv_aload_n d_TrustDeskModel_isWord_47 rfl rfl ?_
          refine mv_iload_n d_TrustDeskModel_isWord_48 rfl rfl ?_
          refine mv_schC (i := 10) (v := 114) d_TrustDeskModel_isWord_49 lV_TrustDeskModel_220 (by decide) rfl (by decide) (by decide) (Nat.le_of_ble_eq_true rfl) (by decide) ?_
          have := mz_hi v23
          refine mv_icmp_eqZ (tgt := 57) (a := v23.toInt) (b := 114) d_TrustDeskModel_isWord_52 (by decide) rfl (by decide) (fun b26 => ?_) (fun b26 => ?_)
          · refine mv_iinc (v := 3) (lv' := [(2, .int 3), (0, .ref o0), (1, .ref 20)]) d_TrustDeskModel_isWord_57 rfl (by decide) (by decide) rfl ?_
            refine mv_goto (tgt := 28) d_TrustDeskModel_isWord_60 (by decide) ?_
            refine mv_iload_n d_TrustDeskModel_isWord_28 rfl rfl ?_
            refine mv_aload_n d_TrustDeskModel_isWord_29 rfl rfl ?_
            refine mv_slenK (i := 10) (v := 3) d_TrustDeskModel_isWord_30 lV_TrustDeskModel_214 (by decide) rfl (by decide) (Nat.le_of_ble_eq_true rfl) ?_
            refine mv_icmp_ge_t (tgt := 63) d_TrustDeskModel_isWord_33 (by decide) (by decide) ?_
            refine mv_iconst (v := 1) d_TrustDeskModel_isWord_63 (by decide) ?_
            exact mv_iret d_TrustDeskModel_isWord_64 rfl (by decide) ⟨_, I0, _, rfl, by decide, by decide, yR, (fun _ => by have := yR.1 15 _ _ rfl; have := yR.1 16 _ _ rfl; have := yR.1 19 _ _ rfl; omega), (fun _ => ⟨by have := yR.1 15 _ _ rfl; have := yR.1 16 _ _ rfl; have := yR.1 19 _ _ rfl; omega, by have := yR.1 15 _ _ rfl; have := yR.1 16 _ _ rfl; have := yR.1 19 _ _ rfl; omega, by have := yR.1 15 _ _ rfl; have := yR.1 16 _ _ rfl; have := yR.1 19 _ _ rfl; omega, by have := yR.1 15 _ _ rfl; have := yR.1 16 _ _ rfl; have := yR.1 19 _ _ rfl; omega, by have := yR.1 15 _ _ rfl; have := yR.1 16 _ _ rfl; have := yR.1 19 _ _ rfl; omega⟩), (fun h => absurd h (by decide))⟩
          · refine mv_iconst (v := 0) d_TrustDeskModel_isWord_55 (by decide) ?_
            exact mv_iret d_TrustDeskModel_isWord_56 rfl (by decide) ⟨_, I0, _, rfl, by decide, by decide, yR, (fun h => absurd h (by decide)), (fun h => absurd h (by decide)), (fun _ h => by obtain ⟨h1, h2, h3, h4, h5⟩ := h; have := yR.1 15 _ _ rfl; have := yR.1 16 _ _ rfl; have := yR.1 19 _ _ rfl; omega)⟩
        · refine mv_iconst (v := 0) d_TrustDeskModel_isWord_55 (by decide) ?_
          exact mv_iret d_TrustDeskModel_isWord_56 rfl (by decide) ⟨_, I0, _, rfl, by decide, by decide, yR, (fun h => absurd h (by decide)), (fun h => absurd h (by decide)), (fun _ h => by obtain ⟨h1, h2, h3, h4, h5⟩ := h; have := yR.1 15 _ _ rfl; have := yR.1 16 _ _ rfl; have := yR.1 19 _ _ rfl; omega)⟩
      · refine mv_iconst (v := 0) d_TrustDeskModel_isWord_55 (by decide) ?_
        exact mv_iret d_TrustDeskModel_isWord_56 rfl (by decide) ⟨_, I0, _, rfl, by decide, by decide, yR, (fun h => absurd h (by decide)), (fun h => absurd h (by decide)), (fun _ h => by obtain ⟨h1, h2, h3, h4, h5⟩ := h; have := yR.1 15 _ _ rfl; have := yR.1 16 _ _ rfl; have := yR.1 19 _ _ rfl; omega)⟩
    · refine mv_iconst (v := 0) d_TrustDeskModel_isWord_24 (by decide) ?_
      exact mv_iret d_TrustDeskModel_isWord_25 rfl (by decide) ⟨_, I0, _, rfl, by decide, by decide, yR, (fun h => absurd h (by decide)), (fun h => absurd h (by decide)), (fun _ h => by obtain ⟨h1, h2, h3, h4, h5⟩ := h; have := yR.1 15 _ _ rfl; have := yR.1 16 _ _ rfl; have := yR.1 19 _ _ rfl; omega)⟩
theorem d_TrustDeskModel_ruleWord_91 : decode kY_TrustDeskModel_ruleWord.2.1 91 = .ok (.ifCond .eq 8, 3) := by decide +kernel
theorem d_TrustDeskModel_ruleWord_99 : decode kY_TrustDeskModel_ruleWord.2.1 99 = .ok (.iconst (-1), 1) := by decide +kernel
theorem d_TrustDeskModel_ruleWord_100 : decode kY_TrustDeskModel_ruleWord.2.1 100 = .ok (.ireturn, 1) := by decide +kernel
theorem d_TrustDeskModel_ruleWord_94 : decode kY_TrustDeskModel_ruleWord.2.1 94 = .ok (.bipush 6, 2) := by decide +kernel
theorem d_TrustDeskModel_ruleWord_96 : decode kY_TrustDeskModel_ruleWord.2.1 96 = .ok (.goto 4, 3) := by decide +kernel
theorem d_TrustDeskModel_ruleWord_80 : decode kY_TrustDeskModel_ruleWord.2.1 80 = .ok (.iconst 5, 1) := by decide +kernel
theorem d_TrustDeskModel_ruleWord_81 : decode kY_TrustDeskModel_ruleWord.2.1 81 = .ok (.goto 19, 3) := by decide +kernel
theorem d_TrustDeskModel_ruleWord_66 : decode kY_TrustDeskModel_ruleWord.2.1 66 = .ok (.iconst 4, 1) := by decide +kernel
theorem d_TrustDeskModel_ruleWord_67 : decode kY_TrustDeskModel_ruleWord.2.1 67 = .ok (.goto 33, 3) := by decide +kernel
theorem d_TrustDeskModel_ruleWord_52 : decode kY_TrustDeskModel_ruleWord.2.1 52 = .ok (.iconst 3, 1) := by decide +kernel
theorem d_TrustDeskModel_ruleWord_53 : decode kY_TrustDeskModel_ruleWord.2.1 53 = .ok (.goto 47, 3) := by decide +kernel
theorem d_TrustDeskModel_ruleWord_38 : decode kY_TrustDeskModel_ruleWord.2.1 38 = .ok (.iconst 2, 1) := by decide +kernel
theorem d_TrustDeskModel_ruleWord_39 : decode kY_TrustDeskModel_ruleWord.2.1 39 = .ok (.goto 61, 3) := by decide +kernel
theorem d_TrustDeskModel_ruleWord_24 : decode kY_TrustDeskModel_ruleWord.2.1 24 = .ok (.iconst 1, 1) := by decide +kernel
theorem d_TrustDeskModel_ruleWord_25 : decode kY_TrustDeskModel_ruleWord.2.1 25 = .ok (.goto 75, 3) := by decide +kernel
theorem d_TrustDeskModel_ruleWord_10 : decode kY_TrustDeskModel_ruleWord.2.1 10 = .ok (.iconst 0, 1) := by decide +kernel
theorem d_TrustDeskModel_ruleWord_11 : decode kY_TrustDeskModel_ruleWord.2.1 11 = .ok (.goto 89, 3) := by decide +kernel
def w_TrustDeskModel_ruleWord_x : List Nat := []
set_option maxHeartbeats 100000000 in theorem tc_TrustDeskModel_ruleWord_x {g : mj_G} {l : Launch} {d : Nat} {T0 : tm_H} {M0 : mj_M} {n0 x9 : Nat} {o0 : Nat} (h_o0 : T0 o0 = some (0, 13, 0)) (yR : rI M0 o0) {pb : Nat → Int} {pn : Nat} {pa : Int} {ps : p_S} (yO : pO M0 o0 pb pn pa ps) (yw : rv M0 o0 19 = 0) (I0 : tm_I tm_FT (tm_in w_TrustDeskModel_ruleWord_x) x9 T0 M0 n0 T0 M0 n0) : mj_Met g l kY_TrustDeskModel_ruleWord (d + 5) [.ref o0] M0 n0 0 0 (tm_Q tm_FT (tm_in w_TrustDeskModel_ruleWord_x) x9 T0 M0 n0 (fun r _ M => ∃ v : Int32, r = some (.int v) ∧ rI M o0 ∧ (-1 ≤ v.toInt ∧ v.toInt ≤ 6) ∧ ((13 ≤ p_wi pb pn ps.2.2 ∧ p_wi pb pn ps.2.2 ≤ 18 ∧ v.toInt = p_wi pb pn ps.2.2 - 13) ∨ (p_wi pb pn ps.2.2 = 23 ∧ v.toInt = 6) ∨ (¬ (13 ≤ p_wi pb pn ps.2.2 ∧ p_wi pb pn ps.2.2 ≤ 18) ∧ p_wi pb pn ps.2.2 ≠ 23 ∧ v.toInt = -1)))) := by
  refine mj_enter (by decide) (Nat.le_of_ble_eq_true rfl) ?_
  have := yO.w
  refine mv_aload_n d_TrustDeskModel_ruleWord_0 rfl rfl ?_
  refine mv_ldcSw (id := 14) (tx := "fail") d_TrustDeskModel_ruleWord_1 (List.mem_of_getElem? (i := 4) rfl) ?_
  obtain ⟨_, b7, -⟩ := I0.1 _ _ h_o0
  refine mv_callV (kc' := 0) (ks' := 0) (As := [.ref 14]) (st9 := [.ref 14, .ref o0]) d_TrustDeskModel_ruleWord_4 lV_TrustDeskModel_244 b7 rfl (tc_TrustDeskModel_isWord_s1_14_x (d := d) (x9 := x9) (o0 := o0) h_o0 yR I0.start) rfl (Nat.le_of_ble_eq_true rfl) (Nat.le_of_ble_eq_true rfl) (Nat.le_of_ble_eq_true rfl) (hst := rfl) (fun b1r M2 n3 b1 => ?_)
  obtain ⟨T4, J5, v8, rfl, b9, b10, R11, f12, f13, f14⟩ := b1
  have I6 := I0.call J5 (tm_sub (by decide)) (Or.inl rfl)
  have t15 := J5.up h_o0
  replace f12 := Im.i f12
  replace f13 := Im.i f13
  replace f14 := Im.i f14
  have z16 := (rv_c I0 J5 (I0.up h_o0) (k := 17) rfl)
  have Z917 : pO M2 o0 pb pn pa ps := yO.same (rE_hv I0 J5 (I0.up h_o0) 14 20 (by decide)) (rv_c I0 J5 (I0.up h_o0) (k := 23) rfl) (ra_call I0 J5 (I0.up h_o0) (k := 13) rfl rfl rfl)
  have d18 := Im.i (pO.w_13 yO (by have := yR.1 15 _ _ rfl; have := yR.1 16 _ _ rfl; have := yR.1 19 _ _ rfl; omega) (Im.o f13) (Im.o f14) (by have := yR.1 15 _ _ rfl; have := yR.1 16 _ _ rfl; have := yR.1 19 _ _ rfl; omega))
  have := mz_hi v8
  refine mv_if_eqZ (tgt := 14) (a := v8.toInt) d_TrustDeskModel_ruleWord_7 (by decide) rfl (fun b19 => ?_) (fun b19 => ?_)
  · refine mv_aload_n d_TrustDeskModel_ruleWord_14 rfl rfl ?_
    refine mv_ldcSw (id := 15) (tx := "keep") d_TrustDeskModel_ruleWord_15 (List.mem_of_getElem? (i := 5) rfl) ?_
    obtain ⟨_, b26, -⟩ := I6.1 _ _ t15
    refine mv_callV (kc' := 0) (ks' := 0) (As := [.ref 15]) (st9 := [.ref 15, .ref o0]) d_TrustDeskModel_ruleWord_18 lV_TrustDeskModel_244 b26 rfl (tc_TrustDeskModel_isWord_s1_15_x (d := d) (x9 := x9) (o0 := o0) t15 R11 I6.start) rfl (Nat.le_of_ble_eq_true rfl) (Nat.le_of_ble_eq_true rfl) (Nat.le_of_ble_eq_true rfl) (hst := rfl) (fun b20r M21 n22 b20 => ?_)
    obtain ⟨T23, J24, v27, rfl, b28, b29, R30, f31, f32, f33⟩ := b20
    have I25 := I6.call J24 (tm_sub (by decide)) (Or.inl rfl)
    have t34 := J24.up t15
    replace f31 := Im.i f31
    replace f32 := Im.i f32
    replace f33 := Im.i f33
    have z35 := (rv_c I6 J24 (I6.up h_o0) (k := 17) rfl).trans z16
    have Z936 : pO M21 o0 pb pn pa ps := Z917.same (rE_hv I6 J24 (I6.up h_o0) 14 20 (by decide)) (rv_c I6 J24 (I6.up h_o0) (k := 23) rfl) (ra_call I6 J24 (I6.up h_o0) (k := 13) rfl rfl rfl)
    have d37 := Im.i (pO.w_14 Z917 (by have := R11.1 15 _ _ rfl; have := R11.1 16 _ _ rfl; have := R11.1 19 _ _ rfl; omega) (Im.o f32) (Im.o f33) (by have := R11.1 15 _ _ rfl; have := R11.1 16 _ _ rfl; have := R11.1 19 _ _ rfl; omega))
    have := mz_hi v27
    refine mv_if_eqZ (tgt := 28) (a := v27.toInt) d_TrustDeskModel_ruleWord_21 (by decide) rfl (fun b38 => ?_) (fun b38 => ?_)
    · refine mv_aload_n d_TrustDeskModel_ruleWord_28 rfl rfl ?_
      refine mv_ldcSw (id := 16) (tx := "days") d_TrustDeskModel_ruleWord_29 (List.mem_of_getElem? (i := 6) rfl) ?_
      obtain ⟨_, b45, -⟩ := I25.1 _ _ t34
      refine mv_callV (kc' := 0) (ks' := 0) (As := [.ref 16]) (st9 := [.ref 16, .ref o0]) d_TrustDeskModel_ruleWord_32 lV_TrustDeskModel_244 b45 rfl (tc_TrustDeskModel_isWord_s1_16_x (d := d) (x9 := x9) (o0 := o0) t34 R30 I25.start) rfl (Nat.le_of_ble_eq_true rfl) (Nat.le_of_ble_eq_true rfl) (Nat.le_of_ble_eq_true rfl) (hst := rfl) (fun b39r M40 n41 b39 => ?_)
      obtain ⟨T42, J43, v46, rfl, b47, b48, R49, f50, f51, f52⟩ := b39
      have I44 := I25.call J43 (tm_sub (by decide)) (Or.inl rfl)
      have t53 := J43.up t34
      replace f50 := Im.i f50
      replace f51 := Im.i f51
      replace f52 := Im.i f52
      have z54 := (rv_c I25 J43 (I25.up h_o0) (k := 17) rfl).trans z35
      have Z955 : pO M40 o0 pb pn pa ps := Z936.same (rE_hv I25 J43 (I25.up h_o0) 14 20 (by decide)) (rv_c I25 J43 (I25.up h_o0) (k := 23) rfl) (ra_call I25 J43 (I25.up h_o0) (k := 13) rfl rfl rfl)
      have d56 := Im.i (pO.w_15 Z936 (by have := R30.1 15 _ _ rfl; have := R30.1 16 _ _ rfl; have := R30.1 19 _ _ rfl; omega) (Im.o f51) (Im.o f52) (by have := R30.1 15 _ _ rfl; have := R30.1 16 _ _ rfl; have := R30.1 19 _ _ rfl; omega))
      have := mz_hi v46
      refine mv_if_eqZ (tgt := 42) (a := v46.toInt) d_TrustDeskModel_ruleWord_35 (by decide) rfl (fun b57 => ?_) (fun b57 => ?_)
      · refine mv_aload_n d_TrustDeskModel_ruleWord_42 rfl rfl ?_
        refine mv_ldcSw (id := 17) (tx := "late") d_TrustDeskModel_ruleWord_43 (List.mem_of_getElem? (i := 7) rfl) ?_
        obtain ⟨_, b64, -⟩ := I44.1 _ _ t53
        refine mv_callV (kc' := 0) (ks' := 0) (As := [.ref 17]) (st9 := [.ref 17, .ref o0]) d_TrustDeskModel_ruleWord_46 lV_TrustDeskModel_244 b64 rfl (tc_TrustDeskModel_isWord_s1_17_x (d := d) (x9 := x9) (o0 := o0) t53 R49 I44.start) rfl (Nat.le_of_ble_eq_true rfl) (Nat.le_of_ble_eq_true rfl) (Nat.le_of_ble_eq_true rfl) (hst := rfl) (fun b58r M59 n60 b58 => ?_)
        obtain ⟨T61, J62, v65, rfl, b66, b67, R68, f69, f70, f71⟩ := b58
        have I63 := I44.call J62 (tm_sub (by decide)) (Or.inl rfl)
        have t72 := J62.up t53
        replace f69 := Im.i f69
        replace f70 := Im.i f70
        replace f71 := Im.i f71
        have z73 := (rv_c I44 J62 (I44.up h_o0) (k := 17) rfl).trans z54
        have Z974 : pO M59 o0 pb pn pa ps := Z955.same (rE_hv I44 J62 (I44.up h_o0) 14 20 (by decide)) (rv_c I44 J62 (I44.up h_o0) (k := 23) rfl) (ra_call I44 J62 (I44.up h_o0) (k := 13) rfl rfl rfl)
        have d75 := Im.i (pO.w_16 Z955 (by have := R49.1 15 _ _ rfl; have := R49.1 16 _ _ rfl; have := R49.1 19 _ _ rfl; omega) (Im.o f70) (Im.o f71) (by have := R49.1 15 _ _ rfl; have := R49.1 16 _ _ rfl; have := R49.1 19 _ _ rfl; omega))
        have := mz_hi v65
        refine mv_if_eqZ (tgt := 56) (a := v65.toInt) d_TrustDeskModel_ruleWord_49 (by decide) rfl (fun b76 => ?_) (fun b76 => ?_)
        · refine mv_aload_n d_TrustDeskModel_ruleWord_56 rfl rfl ?_
          refine mv_ldcSw (id := 18) (tx := "gain") d_TrustDeskModel_ruleWord_57 (List.mem_of_getElem? (i := 8) rfl) ?_
          obtain ⟨_, b83, -⟩ := I63.1 _ _ t72
          refine mv_callV (kc' := 0) (ks' := 0) (As := [.ref 18]) (st9 := [.ref 18, .ref o0]) d_TrustDeskModel_ruleWord_60 lV_TrustDeskModel_244 b83 rfl (tc_TrustDeskModel_isWord_s1_18_x (d := d) (x9 := x9) (o0 := o0) t72 R68 I63.start) rfl (Nat.le_of_ble_eq_true rfl) (Nat.le_of_ble_eq_true rfl) (Nat.le_of_ble_eq_true rfl) (hst := rfl) (fun b77r M78 n79 b77 => ?_)
          obtain ⟨T80, J81, v84, rfl, b85, b86, R87, f88, f89, f90⟩ := b77
          have I82 := I63.call J81 (tm_sub (by decide)) (Or.inl rfl)
          have t91 := J81.up t72
          replace f88 := Im.i f88
          replace f89 := Im.i f89
          replace f90 := Im.i f90
          have z92 := (rv_c I63 J81 (I63.up h_o0) (k := 17) rfl).trans z73
          have Z993 : pO M78 o0 pb pn pa ps := Z974.same (rE_hv I63 J81 (I63.up h_o0) 14 20 (by decide)) (rv_c I63 J81 (I63.up h_o0) (k := 23) rfl) (ra_call I63 J81 (I63.up h_o0) (k := 13) rfl rfl rfl)
          have d94 := Im.i (pO.w_17 Z974 (by have := R68.1 15 _ _ rfl; have := R68.1 16 _ _ rfl; have := R68.1 19 _ _ rfl; omega) (Im.o f89) (Im.o f90) (by have := R68.1 15 _ _ rfl; have := R68.1 16 _ _ rfl; have := R68.1 19 _ _ rfl; omega))
          have := mz_hi v84
          refine mv_if_eqZ (tgt := 70) (a := v84.toInt) d_TrustDeskModel_ruleWord_63 (by decide) rfl (fun b95 => ?_) (fun b95 => ?_)
          · refine mv_aload_n d_TrustDeskModel_ruleWord_70 rfl rfl ?_
            refine mv_ldcSw (id := 19) (tx := "sell") d_TrustDeskModel_ruleWord_71 (List.mem_of_getElem? (i := 9) rfl) ?_
            obtain ⟨_, b102, -⟩ := I82.1 _ _ t91
            refine mv_callV (kc' := 0) (ks' := 0) (As := [.ref 19]) (st9 := [.ref 19, .ref o0]) d_TrustDeskModel_ruleWord_74 lV_TrustDeskModel_244 b102 rfl (tc_TrustDeskModel_isWord_s1_19_x (d := d) (x9 := x9) (o0 := o0) t91 R87 I82.start) rfl (Nat.le_of_ble_eq_true rfl) (Nat.le_of_ble_eq_true rfl) (Nat.le_of_ble_eq_true rfl) (hst := rfl) (fun b96r M97 n98 b96 => ?_)
            obtain ⟨T99, J100, v103, rfl, b104, b105, R106, f107, f108, f109⟩ := b96
            have I101 := I82.call J100 (tm_sub (by decide)) (Or.inl rfl)
            have t110 := J100.up t91
            replace f107 := Im.i f107
            replace f108 := Im.i f108
            replace f109 := Im.i f109
            have z111 := (rv_c I82 J100 (I82.up h_o0) (k := 17) rfl).trans z92
            have Z9112 : pO M97 o0 pb pn pa ps := Z993.same (rE_hv I82 J100 (I82.up h_o0) 14 20 (by decide)) (rv_c I82 J100 (I82.up h_o0) (k := 23) rfl) (ra_call I82 J100 (I82.up h_o0) (k := 13) rfl rfl rfl)
            have d113 := Im.i (pO.w_18 Z993 (by have := R87.1 15 _ _ rfl; have := R87.1 16 _ _ rfl; have := R87.1 19 _ _ rfl; omega) (Im.o f108) (Im.o f109) (by have := R87.1 15 _ _ rfl; have := R87.1 16 _ _ rfl; have := R87.1 19 _ _ rfl; omega))
            have := mz_hi v103
            refine mv_if_eqZ (tgt := 84) (a := v103.toInt) d_TrustDeskModel_ruleWord_77 (by decide) rfl (fun b114 => ?_) (fun b114 => ?_)
            · refine mv_aload_n d_TrustDeskModel_ruleWord_84 rfl rfl ?_
              refine mv_ldcSw (id := 20) (tx := "bar") d_TrustDeskModel_ruleWord_85 (List.mem_of_getElem? (i := 10) rfl) ?_
              obtain ⟨_, b121, -⟩ := I101.1 _ _ t110
              refine mv_callV (kc' := 0) (ks' := 0) (As := [.ref 20]) (st9 := [.ref 20, .ref o0]) d_TrustDeskModel_ruleWord_88 lV_TrustDeskModel_244 b121 rfl (tc_TrustDeskModel_isWord_s1_20_x (d := d) (x9 := x9) (o0 := o0) t110 R106 I101.start) rfl (Nat.le_of_ble_eq_true rfl) (Nat.le_of_ble_eq_true rfl) (Nat.le_of_ble_eq_true rfl) (hst := rfl) (fun b115r M116 n117 b115 => ?_)
              obtain ⟨T118, J119, v122, rfl, b123, b124, R125, f126, f127, f128⟩ := b115
              have I120 := I101.call J119 (tm_sub (by decide)) (Or.inl rfl)
              have t129 := J119.up t110
              replace f126 := Im.i f126
              replace f127 := Im.i f127
              replace f128 := Im.i f128
              have z130 := (rv_c I101 J119 (I101.up h_o0) (k := 17) rfl).trans z111
              have Z9131 : pO M116 o0 pb pn pa ps := Z9112.same (rE_hv I101 J119 (I101.up h_o0) 14 20 (by decide)) (rv_c I101 J119 (I101.up h_o0) (k := 23) rfl) (ra_call I101 J119 (I101.up h_o0) (k := 13) rfl rfl rfl)
              have d132 := Im.i (pO.w_23 Z9112 (by have := R106.1 15 _ _ rfl; have := R106.1 16 _ _ rfl; have := R106.1 19 _ _ rfl; omega) (Im.o f127) (Im.o f128) (by have := R106.1 15 _ _ rfl; have := R106.1 16 _ _ rfl; have := R106.1 19 _ _ rfl; omega))
              have := mz_hi v122
              refine mv_if_eqZ (tgt := 99) (a := v122.toInt) d_TrustDeskModel_ruleWord_91 (by decide) rfl (fun b133 => ?_) (fun b133 => ?_)
              · refine mv_iconst (v := (-1)) d_TrustDeskModel_ruleWord_99 (by decide) ?_
                exact mv_iret d_TrustDeskModel_ruleWord_100 rfl (by first | rfl | decide) ⟨_, I120, _, rfl, R125, (by decide), (by have w_13 := pW0 (Im.o d18) (by omega); have w_14 := pW0 (Im.o d37) (by omega); have w_15 := pW0 (Im.o d56) (by omega); have w_16 := pW0 (Im.o d75) (by omega); have w_17 := pW0 (Im.o d94) (by omega); have w_18 := pW0 (Im.o d113) (by omega); have w_23 := pW0 (Im.o d132) (by omega); have := p_norw w_13 w_14 w_15 w_16 w_17 w_18 w_23; have e9 : ((-1) : Int32).toInt = (-1) := (by decide); clear w_13 w_14 w_15 w_16 w_17 w_18 w_23; omega)⟩
              · refine mv_bipush (v := 6) d_TrustDeskModel_ruleWord_94 (by decide) ?_
                refine mv_goto (tgt := 100) d_TrustDeskModel_ruleWord_96 (by decide) ?_
                exact mv_iret d_TrustDeskModel_ruleWord_100 rfl (by first | rfl | decide) ⟨_, I120, _, rfl, R125, (by decide), (by have w_23 := pW1 (Im.o d132) (by omega); have e9 : (6 : Int32).toInt = 6 := (by decide); omega)⟩
            · refine mv_iconst (v := 5) d_TrustDeskModel_ruleWord_80 (by decide) ?_
              refine mv_goto (tgt := 100) d_TrustDeskModel_ruleWord_81 (by decide) ?_
              exact mv_iret d_TrustDeskModel_ruleWord_100 rfl (by first | rfl | decide) ⟨_, I101, _, rfl, R106, (by decide), (by have w_18 := pW1 (Im.o d113) (by omega); have e9 : (5 : Int32).toInt = 5 := (by decide); omega)⟩
          · refine mv_iconst (v := 4) d_TrustDeskModel_ruleWord_66 (by decide) ?_
            refine mv_goto (tgt := 100) d_TrustDeskModel_ruleWord_67 (by decide) ?_
            exact mv_iret d_TrustDeskModel_ruleWord_100 rfl (by first | rfl | decide) ⟨_, I82, _, rfl, R87, (by decide), (by have w_17 := pW1 (Im.o d94) (by omega); have e9 : (4 : Int32).toInt = 4 := (by decide); omega)⟩
        · refine mv_iconst (v := 3) d_TrustDeskModel_ruleWord_52 (by decide) ?_
          refine mv_goto (tgt := 100) d_TrustDeskModel_ruleWord_53 (by decide) ?_
          exact mv_iret d_TrustDeskModel_ruleWord_100 rfl (by first | rfl | decide) ⟨_, I63, _, rfl, R68, (by decide), (by have w_16 := pW1 (Im.o d75) (by omega); have e9 : (3 : Int32).toInt = 3 := (by decide); omega)⟩
      · refine mv_iconst (v := 2) d_TrustDeskModel_ruleWord_38 (by decide) ?_
        refine mv_goto (tgt := 100) d_TrustDeskModel_ruleWord_39 (by decide) ?_
        exact mv_iret d_TrustDeskModel_ruleWord_100 rfl (by first | rfl | decide) ⟨_, I44, _, rfl, R49, (by decide), (by have w_15 := pW1 (Im.o d56) (by omega); have e9 : (2 : Int32).toInt = 2 := (by decide); omega)⟩
    · refine mv_iconst (v := 1) d_TrustDeskModel_ruleWord_24 (by decide) ?_
      refine mv_goto (tgt := 100) d_TrustDeskModel_ruleWord_25 (by decide) ?_
      exact mv_iret d_TrustDeskModel_ruleWord_100 rfl (by first | rfl | decide) ⟨_, I25, _, rfl, R30, (by decide), (by have w_14 := pW1 (Im.o d37) (by omega); have e9 : (1 : Int32).toInt = 1 := (by decide); omega)⟩
  · refine mv_iconst (v := 0) d_TrustDeskModel_ruleWord_10 (by decide) ?_
    refine mv_goto (tgt := 100) d_TrustDeskModel_ruleWord_11 (by decide) ?_
    exact mv_iret d_TrustDeskModel_ruleWord_100 rfl (by first | rfl | decide) ⟨_, I6, _, rfl, R11, (by decide), (by have w_13 := pW1 (Im.o d18) (by omega); have e9 : (0 : Int32).toInt = 0 := (by decide); omega)⟩
theorem lV_TrustDeskModel_365 : mj_lV "TrustDeskModel" 365 kY_TrustDeskModel_ruleWord 0 := ⟨⟨(mj_in1 (List.mem_of_getElem? (i := 1670) (by decide +kernel)) rfl), (mj_in1 (List.mem_of_getElem? (i := 10) (by decide +kernel)) rfl), (mj_in1 (List.mem_of_getElem? (i := 1673) (by decide +kernel)) rfl), by decide, rfl, by decide⟩, (mj_in1 (List.mem_of_getElem? (i := 1672) (by decide +kernel)) rfl), (mj_in (List.mem_append_left _ (List.mem_of_getElem? (i := 85) (by decide +kernel))) rfl)⟩
theorem d_TrustDeskModel_readRule_4 : decode kY_TrustDeskModel_readRule.2.1 4 = .ok (.istore_n 1, 1) := by decide +kernel
theorem d_TrustDeskModel_readRule_5 : decode kY_TrustDeskModel_readRule.2.1 5 = .ok (.iload_n 1, 1) := by decide +kernel
theorem d_TrustDeskModel_readRule_6 : decode kY_TrustDeskModel_readRule.2.1 6 = .ok (.iconst (-1), 1) := by decide +kernel
theorem d_TrustDeskModel_readRule_7 : decode kY_TrustDeskModel_readRule.2.1 7 = .ok (.if_icmp .ne 11, 3) := by decide +kernel
theorem d_TrustDeskModel_readRule_18 : decode kY_TrustDeskModel_readRule.2.1 18 = .ok (.aload_n 0, 1) := by decide +kernel
theorem d_TrustDeskModel_readRule_19 : decode kY_TrustDeskModel_readRule.2.1 19 = .ok (.getfield 23, 3) := by decide +kernel
theorem d_TrustDeskModel_readRule_22 : decode kY_TrustDeskModel_readRule.2.1 22 = .ok (.bipush 44, 2) := by decide +kernel
theorem d_TrustDeskModel_readRule_24 : decode kY_TrustDeskModel_readRule.2.1 24 = .ok (.iaload, 1) := by decide +kernel
theorem d_TrustDeskModel_readRule_25 : decode kY_TrustDeskModel_readRule.2.1 25 = .ok (.bipush 20, 2) := by decide +kernel
theorem d_TrustDeskModel_readRule_27 : decode kY_TrustDeskModel_readRule.2.1 27 = .ok (.if_icmp .ne 8, 3) := by decide +kernel
theorem d_TrustDeskModel_readRule_35 : decode kY_TrustDeskModel_readRule.2.1 35 = .ok (.aload_n 0, 1) := by decide +kernel
theorem d_TrustDeskModel_readRule_36 : decode kY_TrustDeskModel_readRule.2.1 36 = .ok (.invokevirtual 230, 3) := by decide +kernel
theorem d_TrustDeskModel_readRule_39 : decode kY_TrustDeskModel_readRule.2.1 39 = .ok (.ifCond .ne 4, 3) := by decide +kernel
theorem d_TrustDeskModel_readRule_42 : decode kY_TrustDeskModel_readRule.2.1 42 = .ok (.return_, 1) := by decide +kernel
theorem d_TrustDeskModel_readRule_43 : decode kY_TrustDeskModel_readRule.2.1 43 = .ok (.aload_n 0, 1) := by decide +kernel
theorem d_TrustDeskModel_readRule_44 : decode kY_TrustDeskModel_readRule.2.1 44 = .ok (.iload_n 1, 1) := by decide +kernel
theorem d_TrustDeskModel_readRule_45 : decode kY_TrustDeskModel_readRule.2.1 45 = .ok (.invokevirtual 342, 3) := by decide +kernel
theorem d_TrustDeskModel_readRule_48 : decode kY_TrustDeskModel_readRule.2.1 48 = .ok (.istore_n 2, 1) := by decide +kernel
theorem d_TrustDeskModel_readRule_49 : decode kY_TrustDeskModel_readRule.2.1 49 = .ok (.iload_n 1, 1) := by decide +kernel
theorem d_TrustDeskModel_readRule_50 : decode kY_TrustDeskModel_readRule.2.1 50 = .ok (.bipush 6, 2) := by decide +kernel
theorem d_TrustDeskModel_readRule_52 : decode kY_TrustDeskModel_readRule.2.1 52 = .ok (.if_icmp .ne 119, 3) := by decide +kernel
theorem d_TrustDeskModel_readRule_171 : decode kY_TrustDeskModel_readRule.2.1 171 = .ok (.iload_n 1, 1) := by decide +kernel
theorem d_TrustDeskModel_readRule_172 : decode kY_TrustDeskModel_readRule.2.1 172 = .ok (.iconst 1, 1) := by decide +kernel
theorem d_TrustDeskModel_readRule_173 : decode kY_TrustDeskModel_readRule.2.1 173 = .ok (.if_icmp .eq 8, 3) := by decide +kernel
theorem d_TrustDeskModel_readRule_181 : decode kY_TrustDeskModel_readRule.2.1 181 = .ok (.iconst 0, 1) := by decide +kernel
theorem d_TrustDeskModel_readRule_182 : decode kY_TrustDeskModel_readRule.2.1 182 = .ok (.goto 4, 3) := by decide +kernel
theorem d_TrustDeskModel_readRule_186 : decode kY_TrustDeskModel_readRule.2.1 186 = .ok (.istore_n 3, 1) := by decide +kernel
theorem d_TrustDeskModel_readRule_187 : decode kY_TrustDeskModel_readRule.2.1 187 = .ok (.aload_n 0, 1) := by decide +kernel
theorem d_TrustDeskModel_readRule_188 : decode kY_TrustDeskModel_readRule.2.1 188 = .ok (.getfield 29, 3) := by decide +kernel
theorem d_TrustDeskModel_readRule_191 : decode kY_TrustDeskModel_readRule.2.1 191 = .ok (.iload_n 2, 1) := by decide +kernel
theorem d_TrustDeskModel_readRule_192 : decode kY_TrustDeskModel_readRule.2.1 192 = .ok (.aload_n 0, 1) := by decide +kernel
theorem d_TrustDeskModel_readRule_193 : decode kY_TrustDeskModel_readRule.2.1 193 = .ok (.iload_n 3, 1) := by decide +kernel
theorem d_TrustDeskModel_readRule_194 : decode kY_TrustDeskModel_readRule.2.1 194 = .ok (.iload_n 1, 1) := by decide +kernel
theorem d_TrustDeskModel_readRule_195 : decode kY_TrustDeskModel_readRule.2.1 195 = .ok (.ifCond .ne 8, 3) := by decide +kernel
theorem d_TrustDeskModel_readRule_203 : decode kY_TrustDeskModel_readRule.2.1 203 = .ok (.iload_n 1, 1) := by decide +kernel
theorem d_TrustDeskModel_readRule_204 : decode kY_TrustDeskModel_readRule.2.1 204 = .ok (.iconst 1, 1) := by decide +kernel
theorem d_TrustDeskModel_readRule_205 : decode kY_TrustDeskModel_readRule.2.1 205 = .ok (.if_icmp .ne 8, 3) := by decide +kernel
theorem d_TrustDeskModel_readRule_208 : decode kY_TrustDeskModel_readRule.2.1 208 = .ok (.bipush 8, 2) := by decide +kernel
theorem d_TrustDeskModel_readRule_210 : decode kY_TrustDeskModel_readRule.2.1 210 = .ok (.goto 37, 3) := by decide +kernel
theorem d_TrustDeskModel_readRule_247 : decode kY_TrustDeskModel_readRule.2.1 247 = .ok (.invokevirtual 317, 3) := by decide +kernel
theorem d_TrustDeskModel_readRule_250 : decode kY_TrustDeskModel_readRule.2.1 250 = .ok (.iastore, 1) := by decide +kernel
theorem d_TrustDeskModel_readRule_251 : decode kY_TrustDeskModel_readRule.2.1 251 = .ok (.aload_n 0, 1) := by decide +kernel
theorem d_TrustDeskModel_readRule_252 : decode kY_TrustDeskModel_readRule.2.1 252 = .ok (.bipush 59, 2) := by decide +kernel
theorem d_TrustDeskModel_readRule_254 : decode kY_TrustDeskModel_readRule.2.1 254 = .ok (.invokevirtual 291, 3) := by decide +kernel
theorem d_TrustDeskModel_readRule_257 : decode kY_TrustDeskModel_readRule.2.1 257 = .ok (.aload_n 0, 1) := by decide +kernel
theorem d_TrustDeskModel_readRule_258 : decode kY_TrustDeskModel_readRule.2.1 258 = .ok (.getfield 41, 3) := by decide +kernel
theorem d_TrustDeskModel_readRule_261 : decode kY_TrustDeskModel_readRule.2.1 261 = .ok (.iload_n 2, 1) := by decide +kernel
theorem d_TrustDeskModel_readRule_262 : decode kY_TrustDeskModel_readRule.2.1 262 = .ok (.aload_n 0, 1) := by decide +kernel
theorem d_TrustDeskModel_readRule_263 : decode kY_TrustDeskModel_readRule.2.1 263 = .ok (.getfield 20, 3) := by decide +kernel
theorem d_TrustDeskModel_readRule_266 : decode kY_TrustDeskModel_readRule.2.1 266 = .ok (.bipush 44, 2) := by decide +kernel
theorem d_TrustDeskModel_readRule_268 : decode kY_TrustDeskModel_readRule.2.1 268 = .ok (.iaload, 1) := by decide +kernel
theorem d_TrustDeskModel_readRule_269 : decode kY_TrustDeskModel_readRule.2.1 269 = .ok (.iastore, 1) := by decide +kernel
theorem d_TrustDeskModel_readRule_270 : decode kY_TrustDeskModel_readRule.2.1 270 = .ok (.return_, 1) := by decide +kernel
theorem d_TrustDeskModel_readRule_176 : decode kY_TrustDeskModel_readRule.2.1 176 = .ok (.iload_n 1, 1) := by decide +kernel
theorem d_TrustDeskModel_readRule_177 : decode kY_TrustDeskModel_readRule.2.1 177 = .ok (.iconst 4, 1) := by decide +kernel
theorem d_TrustDeskModel_readRule_178 : decode kY_TrustDeskModel_readRule.2.1 178 = .ok (.if_icmp .ne 7, 3) := by decide +kernel
theorem d_TrustDeskModel_readRule_185 : decode kY_TrustDeskModel_readRule.2.1 185 = .ok (.iconst 1, 1) := by decide +kernel
theorem d_TrustDeskModel_readRule_213 : decode kY_TrustDeskModel_readRule.2.1 213 = .ok (.iload_n 1, 1) := by decide +kernel
theorem d_TrustDeskModel_readRule_214 : decode kY_TrustDeskModel_readRule.2.1 214 = .ok (.iconst 2, 1) := by decide +kernel
theorem d_TrustDeskModel_readRule_215 : decode kY_TrustDeskModel_readRule.2.1 215 = .ok (.if_icmp .ne 9, 3) := by decide +kernel
theorem d_TrustDeskModel_readRule_224 : decode kY_TrustDeskModel_readRule.2.1 224 = .ok (.iload_n 1, 1) := by decide +kernel
theorem d_TrustDeskModel_readRule_225 : decode kY_TrustDeskModel_readRule.2.1 225 = .ok (.iconst 3, 1) := by decide +kernel
theorem d_TrustDeskModel_readRule_226 : decode kY_TrustDeskModel_readRule.2.1 226 = .ok (.if_icmp .ne 9, 3) := by decide +kernel
theorem d_TrustDeskModel_readRule_235 : decode kY_TrustDeskModel_readRule.2.1 235 = .ok (.iload_n 1, 1) := by decide +kernel
theorem d_TrustDeskModel_readRule_236 : decode kY_TrustDeskModel_readRule.2.1 236 = .ok (.iconst 4, 1) := by decide +kernel
theorem d_TrustDeskModel_readRule_237 : decode kY_TrustDeskModel_readRule.2.1 237 = .ok (.if_icmp .ne 8, 3) := by decide +kernel
theorem d_TrustDeskModel_readRule_245 : decode kY_TrustDeskModel_readRule.2.1 245 = .ok (.bipush 40, 2) := by decide +kernel
theorem d_TrustDeskModel_readRule_229 : decode kY_TrustDeskModel_readRule.2.1 229 = .ok (.sipush 720, 3) := by decide +kernel
theorem d_TrustDeskModel_readRule_232 : decode kY_TrustDeskModel_readRule.2.1 232 = .ok (.goto 15, 3) := by decide +kernel
theorem d_TrustDeskModel_readRule_218 : decode kY_TrustDeskModel_readRule.2.1 218 = .ok (.sipush 360, 3) := by decide +kernel
theorem d_TrustDeskModel_readRule_221 : decode kY_TrustDeskModel_readRule.2.1 221 = .ok (.goto 26, 3) := by decide +kernel
theorem d_TrustDeskModel_readRule_198 : decode kY_TrustDeskModel_readRule.2.1 198 = .ok (.bipush 50, 2) := by decide +kernel
theorem d_TrustDeskModel_readRule_200 : decode kY_TrustDeskModel_readRule.2.1 200 = .ok (.goto 47, 3) := by decide +kernel
theorem d_TrustDeskModel_readRule_240 : decode kY_TrustDeskModel_readRule.2.1 240 = .ok (.bipush 20, 2) := by decide +kernel
theorem d_TrustDeskModel_readRule_242 : decode kY_TrustDeskModel_readRule.2.1 242 = .ok (.goto 5, 3) := by decide +kernel
theorem d_TrustDeskModel_readRule_30 : decode kY_TrustDeskModel_readRule.2.1 30 = .ok (.aload_n 0, 1) := by decide +kernel
theorem d_TrustDeskModel_readRule_31 : decode kY_TrustDeskModel_readRule.2.1 31 = .ok (.iconst 4, 1) := by decide +kernel
theorem d_TrustDeskModel_readRule_32 : decode kY_TrustDeskModel_readRule.2.1 32 = .ok (.invokevirtual 240, 3) := by decide +kernel
theorem d_TrustDeskModel_readRule_10 : decode kY_TrustDeskModel_readRule.2.1 10 = .ok (.aload_n 0, 1) := by decide +kernel
theorem d_TrustDeskModel_readRule_11 : decode kY_TrustDeskModel_readRule.2.1 11 = .ok (.iconst 1, 1) := by decide +kernel
theorem d_TrustDeskModel_readRule_12 : decode kY_TrustDeskModel_readRule.2.1 12 = .ok (.invokevirtual 240, 3) := by decide +kernel
theorem d_TrustDeskModel_readRule_15 : decode kY_TrustDeskModel_readRule.2.1 15 = .ok (.goto 20, 3) := by decide +kernel
def w_TrustDeskModel_readRule_xA : List Nat := [1315, 1316, 1317, 1318, 1319, 1320, 1322, 20004, 20005, 20006, 20007, 20008, 20010, 20011, 20012]
set_option maxHeartbeats 100000000 in theorem tc_TrustDeskModel_readRule_xA {g : mj_G} {l : Launch} {d : Nat} {T0 : tm_H} {M0 : mj_M} {n0 x9 : Nat} {o0 : Nat} (h_o0 : T0 o0 = some (0, 13, 0)) (yR : rI M0 o0) (yWW : rW M0 o0) (yw : rv M0 o0 19 = 0) (yo : rv M0 o0 17 ≠ 0) (yq : rv M0 o0 22 = 0) {pb : Nat → Int} {pn : Nat} {pa : Int} {ps : p_S} (yO : pO M0 o0 pb pn pa ps) {pc9 : Nat} (yk : ra M0 o0 6 44 = (pc9 : Int)) (yB : ¬ p_wi pb pn ps.2.2 = 23) (I0 : tm_I tm_FT (tm_in w_TrustDeskModel_readRule_xA) x9 T0 M0 n0 T0 M0 n0) : mj_Met g l kY_TrustDeskModel_readRule (d + 6) [.ref o0] M0 n0 0 0 (tm_Q tm_FT (tm_in w_TrustDeskModel_readRule_xA) x9 T0 M0 n0 (fun r _ M => r = none ∧ rI M o0 ∧ (rW M o0) ∧ (rO M0 M o0) ∧ (rv M0 o0 16 ≤ rv M o0 16 ∧ (rv M o0 19 = 0 → rv M0 o0 16 < rv M o0 16)) ∧ (rv M o0 19 = 0 → rv M o0 22 = 0) ∧ (pO M o0 pb pn pa (p_rul pb pn pa pc9 ps)) ∧ (rv M o0 19 = 0 → ra M o0 6 44 = (pc9 : Int) + 1))) := by
  refine mj_enter (by decide) (Nat.le_of_ble_eq_true rfl) ?_
  have yT := yWW.1
  have yS : rv M0 o0 19 = 0 → ra M0 o0 5 44 ≤ rv M0 o0 16 := fun h9 => (yWW.2 h9).1
  have yG := (yWW.2 yw).2
  have yN := yG.2.2
  have := yR.2 6 _ _ rfl 44
  have yE0 := rE.rf yT
  have K1 : rK M0 M0 o0 ((880 + ra M0 o0 6 44).toNat) := rK.rf
  have K2 : nN M0 o0 := yN
  have := yO.w
  refine mv_aload_n d_TrustDeskModel_readRule_0 rfl rfl ?_
  obtain ⟨_, b9, -⟩ := I0.1 _ _ h_o0
  refine mv_callV (kc' := 0) (ks' := 0) (As := []) (st9 := [.ref o0]) d_TrustDeskModel_readRule_1 lV_TrustDeskModel_365 b9 rfl (tc_TrustDeskModel_ruleWord_x (d := d) (x9 := x9) (o0 := o0) h_o0 yR yO (by have := yR.1 15 _ _ rfl; have := yR.1 16 _ _ rfl; have := yR.1 19 _ _ rfl; omega) I0.start) rfl (Nat.le_of_ble_eq_true rfl) (Nat.le_of_ble_eq_true rfl) (Nat.le_of_ble_eq_true rfl) (hst := rfl) (fun b3r M4 n5 b3 => ?_)
  obtain ⟨T6, J7, v10, rfl, R11, f12, f13⟩ := b3
  have I8 := I0.call J7 (tm_sub (by decide)) (Or.inl rfl)
  have t14 := J7.up h_o0
  have z15 := (rv_c I0 J7 (I0.up h_o0) (k := 15) rfl)
  have z16 := (rv_c I0 J7 (I0.up h_o0) (k := 16) rfl)
  have z17 := (rv_c I0 J7 (I0.up h_o0) (k := 17) rfl)
  have z18 := (rv_c I0 J7 (I0.up h_o0) (k := 19) rfl)
  have z19 := (rv_c I0 J7 (I0.up h_o0) (k := 22) rfl)
  have z20 := (rv_c I0 J7 (I0.up h_o0) (k := 24) rfl)
  have z21 := (ra_call I0 J7 (I0.up h_o0) (k := 5) rfl rfl rfl 44)
  have z22 := (ra_call I0 J7 (I0.up h_o0) (k := 6) rfl rfl rfl 44)
  have E23 : rE M0 M4 o0 0 0 := yE0.same (rE_hv I0 J7 (I0.up h_o0) 15 19 (by decide)) (rE_ha I0 J7 (I0.up h_o0) (by decide))
  have K24 : rK M0 M4 o0 ((880 + ra M0 o0 6 44).toNat) := K1.same (sA_c I0 J7 (I0.up h_o0) (by decide +kernel))
  have K25 : nN M4 o0 := K2.same (sA_c I0 J7 (I0.up h_o0) (by decide +kernel)) (sF_c I0 J7 (I0.up h_o0) (by decide +kernel))
  have Z926 : pO M4 o0 pb pn pa ps := yO.same (rE_hv I0 J7 (I0.up h_o0) 14 20 (by decide)) (rv_c I0 J7 (I0.up h_o0) (k := 23) rfl) (ra_call I0 J7 (I0.up h_o0) (k := 13) rfl rfl rfl)
  refine mv_istore_n (lv' := [(1, .int v10), (0, .ref o0)]) d_TrustDeskModel_readRule_4 rfl (by decide) rfl ?_
  refine mv_iload_n d_TrustDeskModel_readRule_5 rfl rfl ?_
  refine mv_iconst (v := (-1)) d_TrustDeskModel_readRule_6 (by decide) ?_
  have := mz_hi v10
  refine mv_icmp_neZ (tgt := 18) (a := v10.toInt) (b := (-1)) d_TrustDeskModel_readRule_7 (by decide) rfl (by decide) (fun b27 => ?_) (fun b27 => ?_)
  · refine mv_aload_n d_TrustDeskModel_readRule_18 rfl rfl ?_
    obtain ⟨a29, q28, t_a29⟩ := tm_atR I8 t14 (k := 6) rfl
    refine tr_getK q28 d_TrustDeskModel_readRule_19 f_TrustDeskModel_23_13 ?_
    refine mv_bipush (v := 44) d_TrustDeskModel_readRule_22 (by decide) ?_
    refine tr_ialdR (o := o0) (k := 6) I8 q28 t_a29 (by decide) d_TrustDeskModel_readRule_24 (by unfold vp_in; decide) (fun v30 e31 => ?_)
    have := R11.a (k := 6) rfl (44 : Int32).toNatClampNeg
    have : v30.toInt = ra M4 o0 6 44 := e31
    have : v30.toInt = _ := Eq.trans e31 z22
    refine mv_bipush (v := 20) d_TrustDeskModel_readRule_25 (by decide) ?_
    have := mz_hi v30
    refine mv_icmp_neZ (tgt := 35) (a := v30.toInt) (b := 20) d_TrustDeskModel_readRule_27 (by decide) rfl (by decide) (fun b32 => ?_) (fun b32 => ?_)
    · refine mv_aload_n d_TrustDeskModel_readRule_35 rfl rfl ?_
      obtain ⟨_, b33, -⟩ := I8.1 _ _ t14
      refine mv_callV (kc1 := 0) (ks1 := 0) (kc' := 0) (ks' := 0) (As := []) (st9 := [.ref o0]) d_TrustDeskModel_readRule_36 lV_TrustDeskModel_230 b33 rfl (mj_enter (by decide) (Nat.le_of_ble_eq_true rfl) ?_) rfl (Nat.le_of_ble_eq_true rfl) (Nat.le_of_ble_eq_true rfl) (Nat.le_of_ble_eq_true rfl) (hst := rfl) (fun _ _ _ h => h)
      refine mv_aload_n d_TrustDeskModel_isWell_0 rfl rfl ?_
      obtain ⟨v35, q34⟩ := tm_atI I8 t14 (k := 19) rfl
      refine tr_getK q34 d_TrustDeskModel_isWell_1 f_TrustDeskModel_224_13 ?_
      have := R11.f (k := 19) q34 rfl
      have := (tm_rv q34).symm.trans z18
      have := tm_rv q34
      have := mz_hi v35
      refine mv_if_neZ (tgt := 11) (a := v35.toInt) d_TrustDeskModel_isWell_4 (by decide) rfl (fun b36 => ?_) (fun b36 => ?_)
      · refine mv_iconst (v := 0) d_TrustDeskModel_isWell_11 (by decide) ?_
        refine mv_iret d_TrustDeskModel_isWell_12 rfl (by decide) ?_
        refine mv_if_ne_f (tgt := 43) d_TrustDeskModel_readRule_39 (by decide) (by decide) ?_
        exact mv_vret d_TrustDeskModel_readRule_42 rfl ⟨_, I8, rfl, R11, (rW.of E23.1 (E23.s yS (by decide)) (fun w9 => by skip; exact rG.step yG yR E23 w9 K24 (by have := yR.2 6 _ _ rfl 44; omega) (by have := R11.1 15 _ _ rfl; have := R11.1 16 _ _ rfl; have := R11.1 19 _ _ rfl; omega) (by have := R11.1 15 _ _ rfl; have := R11.1 16 _ _ rfl; have := R11.1 19 _ _ rfl; omega) (fun h9 => by exfalso; have := R11.1 15 _ _ rfl; have := R11.1 16 _ _ rfl; have := R11.1 19 _ _ rfl; omega) (fun h9 => (by have := R11.1 15 _ _ rfl; have := R11.1 16 _ _ rfl; have := R11.1 19 _ _ rfl; omega)) (by have := R11.1 15 _ _ rfl; have := R11.1 16 _ _ rfl; have := R11.1 19 _ _ rfl; omega) K25)), (rO.of E23 K24 (by have := yR.2 6 _ _ rfl 44; omega)), ⟨E23.2.1, fun w9 => by skip; have := E23.w2 w9; omega⟩, (fun w9 => by skip; omega), (by first | (rw [show p_rul pb pn pa pc9 ps = ps from (by unfold p_rul; unfold p_bar; (try simp only [eq_self]); ((repeat' (first | (with_reducible rfl) | split)) <;> (first | ((try simp only [eq_self]); done) | ((try simp only [eq_self]); first | exact p_sg_Z _ (by omega) | exact (p_sg_Z _ (by omega)).symm | omega) | (exfalso; omega))))]; exact Z926) | (exfalso; have := R11.1 15 _ _ rfl; have := R11.1 16 _ _ rfl; have := R11.1 19 _ _ rfl; omega)), (fun w9 => by skip; omega)⟩
      · refine mv_iconst (v := 1) d_TrustDeskModel_isWell_7 (by decide) ?_
        refine mv_goto (tgt := 12) d_TrustDeskModel_isWell_8 (by decide) ?_
        refine mv_iret d_TrustDeskModel_isWell_12 rfl (by decide) ?_
        refine mv_if_ne_t (tgt := 43) d_TrustDeskModel_readRule_39 (by decide) (by decide) ?_
        refine mv_aload_n d_TrustDeskModel_readRule_43 rfl rfl ?_
        refine mv_iload_n d_TrustDeskModel_readRule_44 rfl rfl ?_
        obtain ⟨_, b43, -⟩ := I8.1 _ _ t14
        refine mv_callV (kc' := 0) (ks' := 0) (As := [.int v10]) (st9 := [.int v10, .ref o0]) d_TrustDeskModel_readRule_45 lV_TrustDeskModel_342 b43 rfl (tc_TrustDeskModel_begin_x (d := (d + 3)) (x9 := x9) (o0 := o0) (x1 := v10) t14 R11 E23.1 (E23.s yS (by decide)) (by have := R11.1 15 _ _ rfl; have := R11.1 16 _ _ rfl; have := R11.1 19 _ _ rfl; omega) (by have := R11.1 15 _ _ rfl; have := R11.1 16 _ _ rfl; have := R11.1 19 _ _ rfl; omega) (by have := R11.1 15 _ _ rfl; have := R11.1 16 _ _ rfl; have := R11.1 19 _ _ rfl; omega) Z926 I8.start) rfl (Nat.le_of_ble_eq_true rfl) (Nat.le_of_ble_eq_true rfl) (Nat.le_of_ble_eq_true rfl) (hst := rfl) (fun b37r M38 n39 b37 => ?_)
        obtain ⟨T40, J41, v44, rfl, R45, f46, f47, f48, f49, f50, f51, f52⟩ := b37
        have I42 := I8.call J41 (tm_sub (by decide)) (Or.inl rfl)
        have t53 := J41.up t14
        have := f46.2.1
        have f54 := Im.i f46.w.2
        have f55 := Im.i f46.w2
        have z56 := (rv_c I8 J41 (I8.up h_o0) (k := 19) rfl).trans z18
        have z57 := (rv_c I8 J41 (I8.up h_o0) (k := 22) rfl).trans z19
        have z58 := (rv_c I8 J41 (I8.up h_o0) (k := 24) rfl).trans z20
        have z59 := (ra_call I8 J41 (I8.up h_o0) (k := 5) rfl rfl rfl 44).trans z21
        have E60 : rE M0 M38 o0 0 1 := E23.trans f46 (by decide) (yR.2 5 _ _ rfl 44).1 (by decide) (by decide)
        have h61 : (880 + ra M4 o0 6 44).toNat = (880 + ra M0 o0 6 44).toNat := by omega
        rw [h61] at f49 f50 f51
        have K62 : rK M0 M38 o0 ((880 + ra M0 o0 6 44).toNat) := K24.trans f51
        have K63 : nN M38 o0 := K25.same (sA_c I8 J41 (I8.up h_o0) (by decide +kernel)) (sF_c I8 J41 (I8.up h_o0) (by decide +kernel))
        obtain ⟨s64, e65⟩ : ∃ s9 : p_S, p_nx ps = s9 := ⟨_, rfl⟩
        rw [e65] at f52
        have := f52.w
        clear z19 z20
        have q66 := J41.keep t14 (by decide) q28
        have t67 := J41.up t_a29
        have q68 := J41.keep t14 (by decide) q34
        refine mv_istore_n (lv' := [(2, .int v44), (1, .int v10), (0, .ref o0)]) d_TrustDeskModel_readRule_48 rfl (by decide) rfl ?_
        refine mv_iload_n d_TrustDeskModel_readRule_49 rfl rfl ?_
        refine mv_bipush (v := 6) d_TrustDeskModel_readRule_50 (by decide) ?_
        have := mz_hi v10
        refine mv_icmp_neZ (tgt := 171) (a := v10.toInt) (b := 6) d_TrustDeskModel_readRule_52 (by decide) rfl (by decide) (fun b69 => ?_) (fun b69 => by exfalso; omega)
        refine mv_iload_n d_TrustDeskModel_readRule_171 rfl rfl ?_
        refine mv_iconst (v := 1) d_TrustDeskModel_readRule_172 (by decide) ?_
        have := mz_hi v10
        refine mv_icmp_eqZ (tgt := 181) (a := v10.toInt) (b := 1) d_TrustDeskModel_readRule_173 (by decide) rfl (by decide) (fun b70 => ?_) (fun b70 => ?_)
        · refine mv_iconst (v := 0) d_TrustDeskModel_readRule_181 (by decide) ?_
          refine mv_goto (tgt := 186) d_TrustDeskModel_readRule_182 (by decide) ?_
          refine mv_istore_n (lv' := [(3, .int 0), (2, .int v44), (1, .int v10), (0, .ref o0)]) d_TrustDeskModel_readRule_186 rfl (by decide) rfl ?_
          refine mv_aload_n d_TrustDeskModel_readRule_187 rfl rfl ?_
          obtain ⟨a72, q71, t_a72⟩ := tm_atR I42 t53 (k := 8) rfl
          refine tr_getK q71 d_TrustDeskModel_readRule_188 f_TrustDeskModel_29_13 ?_
          refine mv_iload_n d_TrustDeskModel_readRule_191 rfl rfl ?_
          refine mv_aload_n d_TrustDeskModel_readRule_192 rfl rfl ?_
          refine mv_iload_n d_TrustDeskModel_readRule_193 rfl rfl ?_
          refine mv_iload_n d_TrustDeskModel_readRule_194 rfl rfl ?_
          have := mz_hi v10
          refine mv_if_neZ (tgt := 203) (a := v10.toInt) d_TrustDeskModel_readRule_195 (by decide) rfl (fun b73 => ?_) (fun b73 => absurd b73 (by omega))
          refine mv_iload_n d_TrustDeskModel_readRule_203 rfl rfl ?_
          refine mv_iconst (v := 1) d_TrustDeskModel_readRule_204 (by decide) ?_
          have := mz_hi v10
          refine mv_icmp_neZ (tgt := 213) (a := v10.toInt) (b := 1) d_TrustDeskModel_readRule_205 (by decide) rfl (by decide) (fun b74 => absurd b74 (by omega)) (fun b74 => ?_)
          refine mv_bipush (v := 8) d_TrustDeskModel_readRule_208 (by decide) ?_
          refine mv_goto (tgt := 247) d_TrustDeskModel_readRule_210 (by decide) ?_
          obtain ⟨_, b81, -⟩ := I42.1 _ _ t53
          have : (0 : Int32).toInt = 0 := by decide
          have : (8 : Int32).toInt = 8 := by decide
          refine mv_callV (kc' := 0) (ks' := 0) (As := [.int 0, .int 8]) (st9 := [.int 8, .int 0, .ref o0, .int v44, .ref a72]) d_TrustDeskModel_readRule_247 lV_TrustDeskModel_317 b81 rfl (tc_TrustDeskModel_number_x (d := (d + 3)) (x9 := x9) (o0 := o0) (x1 := 0) (x2 := 8) t53 R45 E60.1 (E60.s yS (by decide)) f52 I42.start) rfl (Nat.le_of_ble_eq_true rfl) (Nat.le_of_ble_eq_true rfl) (Nat.le_of_ble_eq_true rfl) (hst := rfl) (fun b75r M76 n77 b75 => ?_)
          obtain ⟨T78, J79, v82, rfl, R83, f84, f85, f86, f87⟩ := b75
          have I80 := I42.call J79 (tm_sub (by decide)) (Or.inl rfl)
          have t88 := J79.up t53
          have t89 := J79.up t_a72
          have := f84.2.1
          have f90 := Im.i f84.w.2
          have f91 := Im.i f84.w2
          replace f87 := Im.i f87
          have z92 := (rv_c I42 J79 (I42.up h_o0) (k := 22) rfl).trans z57
          have z93 := (rv_c I42 J79 (I42.up h_o0) (k := 24) rfl).trans z58
          have z94 := (ra_call I42 J79 (I42.up h_o0) (k := 5) rfl rfl rfl 44).trans z59
          have z95 := (ra_call I42 J79 (I42.up h_o0) (k := 6) rfl rfl rfl 44)
          have z96 := (ra_call I42 J79 (I42.up h_o0) (k := 7) rfl rfl rfl ((880 + ra M0 o0 6 44).toNat))
          have z97 := (ra_call I42 J79 (I42.up h_o0) (k := 10) rfl rfl rfl ((880 + ra M0 o0 6 44).toNat))
          have E98 : rE M0 M76 o0 0 2 := E60.trans f84 (by decide) (yR.2 5 _ _ rfl 44).1 (by decide) (by decide)
          have K99 : rK M0 M76 o0 ((880 + ra M0 o0 6 44).toNat) := K62.same (sA_c I42 J79 (I42.up h_o0) (by decide +kernel))
          have K100 : nN M76 o0 := K63.same (sA_c I42 J79 (I42.up h_o0) (by decide +kernel)) (sF_c I42 J79 (I42.up h_o0) (by decide +kernel))
          rw [show (0 : Int32).toInt = 0 from by decide] at f86
          rw [show (8 : Int32).toInt = 8 from by decide] at f86
          obtain ⟨s101, e102⟩ : ∃ s9 : p_S, p_num pb pn 0 8 s64 = s9 := ⟨_, rfl⟩
          rw [e102] at f86
          have := f86.w
          clear z57 z58 z59
          have q103 := J79.keep t53 (by decide) q66
          have t104 := J79.up t67
          have q105 := J79.keep t53 (by decide) q71
          refine tr_iastR (k := 8) I80 R83 (I80.up h_o0) q105 t89 (by decide) (by decide) (fun lo hi h => by cases h; have := R83.1 15 _ _ rfl; have := R83.1 16 _ _ rfl; have := R83.1 19 _ _ rfl; exact ⟨by show ((-1) : Int) ≤ v82.toInt; omega, by show v82.toInt ≤ (720 : Int); omega⟩) (Or.inl (by decide)) d_TrustDeskModel_readRule_250 (vp_in_iff.mpr (by have := R83.1 15 _ _ rfl; have := R83.1 16 _ _ rfl; have := R83.1 19 _ _ rfl; omega)) (fun M106 I107 K108 R109 E110 A111 V112 => ?_)
          have z113 := (V112 15)
          have z114 := (V112 16)
          have z115 := (V112 17)
          have z116 := (V112 19)
          have z117 := (V112 22).trans z92
          have z118 := (V112 24).trans z93
          have z119 := (A111 5 (by decide) rfl 44).trans z94
          have z120 := (A111 6 (by decide) rfl 44).trans z95
          have z121 := (A111 7 (by decide) rfl ((880 + ra M0 o0 6 44).toNat)).trans z96
          have z122 := (A111 10 (by decide) rfl ((880 + ra M0 o0 6 44).toNat)).trans z97
          have E123 : rE M0 M106 o0 0 2 := E98.same (fun k _ _ => V112 k) (fun k h1 h2 => A111 k (by omega) (by rcases (show k = 4 ∨ k = 5 by omega) with rfl | rfl <;> rfl))
          have h124 : (880 + ra M0 o0 6 44).toNat = v44.toNatClampNeg := by have := mz_nat9 (i := v44) (by have := R83.1 15 _ _ rfl; have := R83.1 16 _ _ rfl; have := R83.1 19 _ _ rfl; omega); have := R83.1 15 _ _ rfl; have := R83.1 16 _ _ rfl; have := R83.1 19 _ _ rfl; omega
          have z125 : ra M106 o0 8 ((880 + ra M0 o0 6 44).toNat) = v82.toInt := (E110 _).trans (if_pos h124)
          have K126 : rK M0 M106 o0 ((880 + ra M0 o0 6 44).toNat) := K99.st A111 E110 (by have := mz_nat9 (i := v44) (by have := R83.1 15 _ _ rfl; have := R83.1 16 _ _ rfl; have := R83.1 19 _ _ rfl; omega); have := R83.1 15 _ _ rfl; have := R83.1 16 _ _ rfl; have := R83.1 19 _ _ rfl; omega)
          have K127 : nN M106 o0 := K100.same (sA_a A111 (by decide +kernel)) (sF_a V112)
          have Z9128 : pO M106 o0 pb pn pa s101 := f86.same (fun k _ _ => V112 k) (V112 23) (A111 13 (by decide) rfl)
          clear z92 z93 z94 z95 z96 z97
          refine mv_aload_n d_TrustDeskModel_readRule_251 rfl rfl ?_
          refine mv_bipush (v := 59) d_TrustDeskModel_readRule_252 (by decide) ?_
          obtain ⟨_, b135, -⟩ := I107.1 _ _ t88
          have : (59 : Int32).toInt = 59 := by decide
          refine mv_callV (kc' := 0) (ks' := 0) (As := [.int 59]) (st9 := [.int 59, .ref o0]) d_TrustDeskModel_readRule_254 lV_TrustDeskModel_291 b135 rfl (tc_TrustDeskModel_wantSign_x (d := (d + 3)) (x9 := x9) (o0 := o0) (x1 := 59) t88 R109 E123.1 (E123.s yS (by decide)) (by decide) Z9128 I107.start) rfl (Nat.le_of_ble_eq_true rfl) (Nat.le_of_ble_eq_true rfl) (Nat.le_of_ble_eq_true rfl) (hst := rfl) (fun b129r M130 n131 b129 => ?_)
          obtain ⟨T132, J133, rfl, R136, f137, f138⟩ := b129
          have I134 := I107.call J133 (tm_sub (by decide)) (Or.inl rfl)
          have t139 := J133.up t88
          have := f137.2.1
          have f140 := Im.i f137.w.2
          have f141 := Im.i f137.w2
          have z142 := (rv_c I107 J133 (I107.up h_o0) (k := 22) rfl).trans z117
          have z143 := (rv_c I107 J133 (I107.up h_o0) (k := 24) rfl).trans z118
          have z144 := (ra_call I107 J133 (I107.up h_o0) (k := 5) rfl rfl rfl 44).trans z119
          have z145 := (ra_call I107 J133 (I107.up h_o0) (k := 6) rfl rfl rfl 44).trans z120
          have z146 := (ra_call I107 J133 (I107.up h_o0) (k := 7) rfl rfl rfl ((880 + ra M0 o0 6 44).toNat)).trans z121
          have z147 := (ra_call I107 J133 (I107.up h_o0) (k := 10) rfl rfl rfl ((880 + ra M0 o0 6 44).toNat)).trans z122
          have z148 := (ra_call I107 J133 (I107.up h_o0) (k := 8) rfl rfl rfl ((880 + ra M0 o0 6 44).toNat)).trans z125
          have E149 : rE M0 M130 o0 0 3 := E123.trans f137 (by decide) (yR.2 5 _ _ rfl 44).1 (by decide) (by decide)
          have K150 : rK M0 M130 o0 ((880 + ra M0 o0 6 44).toNat) := K126.same (sA_c I107 J133 (I107.up h_o0) (by decide +kernel))
          have K151 : nN M130 o0 := K127.same (sA_c I107 J133 (I107.up h_o0) (by decide +kernel)) (sF_c I107 J133 (I107.up h_o0) (by decide +kernel))
          rw [show (59 : Int32).toInt = 59 from by decide] at f138
          obtain ⟨s152, e153⟩ : ∃ s9 : p_S, p_sg pb pn 59 s101 = s9 := ⟨_, rfl⟩
          rw [e153] at f138
          have := f138.w
          clear z117 z118 z119 z120 z121 z122 z125
          have q154 := J133.keep t88 (by decide) (K108 _ 13 6 _ q103)
          have t155 := J133.up t104
          have q156 := J133.keep t88 (by decide) (K108 _ 13 8 _ q105)
          have t157 := J133.up t89
          refine mv_aload_n d_TrustDeskModel_readRule_257 rfl rfl ?_
          obtain ⟨a159, q158, t_a159⟩ := tm_atR I134 t139 (k := 12) rfl
          refine tr_getK q158 d_TrustDeskModel_readRule_258 f_TrustDeskModel_41_13 ?_
          refine mv_iload_n d_TrustDeskModel_readRule_261 rfl rfl ?_
          refine mv_aload_n d_TrustDeskModel_readRule_262 rfl rfl ?_
          obtain ⟨a161, q160, t_a161⟩ := tm_atR I134 t139 (k := 5) rfl
          refine tr_getK q160 d_TrustDeskModel_readRule_263 f_TrustDeskModel_20_13 ?_
          refine mv_bipush (v := 44) d_TrustDeskModel_readRule_266 (by decide) ?_
          refine tr_ialdR (o := o0) (k := 5) I134 q160 t_a161 (by decide) d_TrustDeskModel_readRule_268 (by unfold vp_in; decide) (fun v162 e163 => ?_)
          have := R136.a (k := 5) rfl (44 : Int32).toNatClampNeg
          have : v162.toInt = ra M130 o0 5 44 := e163
          have : v162.toInt = _ := Eq.trans e163 z144
          refine tr_iastR (k := 12) I134 R136 (I134.up h_o0) q158 t_a159 (by decide) (by decide) (fun lo hi h => by cases h; have := R136.1 15 _ _ rfl; have := R136.1 16 _ _ rfl; have := R136.1 19 _ _ rfl; exact ⟨by show (0 : Int) ≤ v162.toInt; omega, by show v162.toInt ≤ (400 : Int); omega⟩) (Or.inl (by decide)) d_TrustDeskModel_readRule_269 (vp_in_iff.mpr (by have := R136.1 15 _ _ rfl; have := R136.1 16 _ _ rfl; have := R136.1 19 _ _ rfl; omega)) (fun M164 I165 K166 R167 E168 A169 V170 => ?_)
          have z171 := (V170 15)
          have z172 := (V170 16)
          have z173 := (V170 17)
          have z174 := (V170 19)
          have z175 := (V170 22).trans z142
          have z176 := (V170 24).trans z143
          have z177 := (A169 5 (by decide) rfl 44).trans z144
          have z178 := (A169 6 (by decide) rfl 44).trans z145
          have z179 := (A169 7 (by decide) rfl ((880 + ra M0 o0 6 44).toNat)).trans z146
          have z180 := (A169 10 (by decide) rfl ((880 + ra M0 o0 6 44).toNat)).trans z147
          have z181 := (A169 8 (by decide) rfl ((880 + ra M0 o0 6 44).toNat)).trans z148
          have E182 : rE M0 M164 o0 0 3 := E149.same (fun k _ _ => V170 k) (fun k h1 h2 => A169 k (by omega) (by rcases (show k = 4 ∨ k = 5 by omega) with rfl | rfl <;> rfl))
          have h183 : (880 + ra M0 o0 6 44).toNat = v44.toNatClampNeg := by have := mz_nat9 (i := v44) (by have := R136.1 15 _ _ rfl; have := R136.1 16 _ _ rfl; have := R136.1 19 _ _ rfl; omega); have := R136.1 15 _ _ rfl; have := R136.1 16 _ _ rfl; have := R136.1 19 _ _ rfl; omega
          have z184 : ra M164 o0 12 ((880 + ra M0 o0 6 44).toNat) = v162.toInt := (E168 _).trans (if_pos h183)
          have K185 : rK M0 M164 o0 ((880 + ra M0 o0 6 44).toNat) := K150.st A169 E168 (by have := mz_nat9 (i := v44) (by have := R136.1 15 _ _ rfl; have := R136.1 16 _ _ rfl; have := R136.1 19 _ _ rfl; omega); have := R136.1 15 _ _ rfl; have := R136.1 16 _ _ rfl; have := R136.1 19 _ _ rfl; omega)
          have K186 : nN M164 o0 := K151.same (sA_a A169 (by decide +kernel)) (sF_a V170)
          have Z9187 : pO M164 o0 pb pn pa s152 := f138.same (fun k _ _ => V170 k) (V170 23) (A169 13 (by decide) rfl)
          clear z142 z143 z144 z145 z146 z147 z148
          exact mv_vret d_TrustDeskModel_readRule_270 rfl ⟨_, I165, rfl, R167, (rW.of E182.1 (E182.s yS (by decide)) (fun w9 => by have u91 : rv M130 o0 19 = 0 := (by omega); have := f140.o u91; have := f141.o u91; have u92 : rv M76 o0 19 = 0 := (by omega); have := f90.o u92; have := f91.o u92; have := f87.o u92; have u93 : rv M38 o0 19 = 0 := (by omega); have := f54.o u93; have := f55.o u93; exact rG.step yG yR E182 w9 K185 (by have := yR.2 6 _ _ rfl 44; omega) (by have := R167.1 15 _ _ rfl; have := R167.1 16 _ _ rfl; have := R167.1 19 _ _ rfl; omega) (by have := R167.1 15 _ _ rfl; have := R167.1 16 _ _ rfl; have := R167.1 19 _ _ rfl; omega) (fun h9 => by exfalso; have := R167.1 15 _ _ rfl; have := R167.1 16 _ _ rfl; have := R167.1 19 _ _ rfl; omega) (fun h9 => (by have := R167.1 15 _ _ rfl; have := R167.1 16 _ _ rfl; have := R167.1 19 _ _ rfl; omega)) (by have := R167.1 15 _ _ rfl; have := R167.1 16 _ _ rfl; have := R167.1 19 _ _ rfl; omega) K186)), (rO.of E182 K185 (by have := yR.2 6 _ _ rfl 44; omega)), ⟨E182.2.1, fun w9 => by skip; have := E182.w2 w9; omega⟩, (fun w9 => by have u91 : rv M130 o0 19 = 0 := (by omega); have := f140.o u91; have := f141.o u91; have u92 : rv M76 o0 19 = 0 := (by omega); have := f90.o u92; have := f91.o u92; have := f87.o u92; have u93 : rv M38 o0 19 = 0 := (by omega); have := f54.o u93; have := f55.o u93; omega), (by first | (have hlo : p_lo (p_wi pb pn ps.2.2) = 0 := (by unfold p_lo; split <;> omega); have hhi : p_hi (p_wi pb pn ps.2.2) = 8 := (by unfold p_hi; (repeat' split) <;> omega); rw [show p_rul pb pn pa pc9 ps = s152 from (by unfold p_rul; unfold p_bar; rw [hlo, hhi]; (try simp only [e65, e102, e153]); ((repeat' (first | (with_reducible rfl) | split)) <;> (first | ((try simp only [e65, e102, e153]); done) | ((try simp only [e65, e102, e153]); first | exact p_sg_Z _ (by omega) | exact (p_sg_Z _ (by omega)).symm | omega) | (exfalso; omega))))]; exact Z9187) | (exfalso; have := R167.1 15 _ _ rfl; have := R167.1 16 _ _ rfl; have := R167.1 19 _ _ rfl; omega)), (fun w9 => by have u91 : rv M130 o0 19 = 0 := (by omega); have := f140.o u91; have := f141.o u91; have u92 : rv M76 o0 19 = 0 := (by omega); have := f90.o u92; have := f91.o u92; have := f87.o u92; have u93 : rv M38 o0 19 = 0 := (by omega); have := f54.o u93; have := f55.o u93; omega)⟩
        · refine mv_iload_n d_TrustDeskModel_readRule_176 rfl rfl ?_
          refine mv_iconst (v := 4) d_TrustDeskModel_readRule_177 (by decide) ?_
          have := mz_hi v10
          refine mv_icmp_neZ (tgt := 185) (a := v10.toInt) (b := 4) d_TrustDeskModel_readRule_178 (by decide) rfl (by decide) (fun b188 => ?_) (fun b188 => ?_)
          · refine mv_iconst (v := 1) d_TrustDeskModel_readRule_185 (by decide) ?_
            refine mv_istore_n (lv' := [(3, .int 1), (2, .int v44), (1, .int v10), (0, .ref o0)]) d_TrustDeskModel_readRule_186 rfl (by decide) rfl ?_
            refine mv_aload_n d_TrustDeskModel_readRule_187 rfl rfl ?_
            obtain ⟨a190, q189, t_a190⟩ := tm_atR I42 t53 (k := 8) rfl
            refine tr_getK q189 d_TrustDeskModel_readRule_188 f_TrustDeskModel_29_13 ?_
            refine mv_iload_n d_TrustDeskModel_readRule_191 rfl rfl ?_
            refine mv_aload_n d_TrustDeskModel_readRule_192 rfl rfl ?_
            refine mv_iload_n d_TrustDeskModel_readRule_193 rfl rfl ?_
            refine mv_iload_n d_TrustDeskModel_readRule_194 rfl rfl ?_
            have := mz_hi v10
            refine mv_if_neZ (tgt := 203) (a := v10.toInt) d_TrustDeskModel_readRule_195 (by decide) rfl (fun b191 => ?_) (fun b191 => ?_)
            · refine mv_iload_n d_TrustDeskModel_readRule_203 rfl rfl ?_
              refine mv_iconst (v := 1) d_TrustDeskModel_readRule_204 (by decide) ?_
              have := mz_hi v10
              refine mv_icmp_neZ (tgt := 213) (a := v10.toInt) (b := 1) d_TrustDeskModel_readRule_205 (by decide) rfl (by decide) (fun b192 => ?_) (fun b192 => absurd b192 (by omega))
              refine mv_iload_n d_TrustDeskModel_readRule_213 rfl rfl ?_
              refine mv_iconst (v := 2) d_TrustDeskModel_readRule_214 (by decide) ?_
              have := mz_hi v10
              refine mv_icmp_neZ (tgt := 224) (a := v10.toInt) (b := 2) d_TrustDeskModel_readRule_215 (by decide) rfl (by decide) (fun b193 => ?_) (fun b193 => ?_)
              · refine mv_iload_n d_TrustDeskModel_readRule_224 rfl rfl ?_
                refine mv_iconst (v := 3) d_TrustDeskModel_readRule_225 (by decide) ?_
                have := mz_hi v10
                refine mv_icmp_neZ (tgt := 235) (a := v10.toInt) (b := 3) d_TrustDeskModel_readRule_226 (by decide) rfl (by decide) (fun b194 => ?_) (fun b194 => ?_)
                · refine mv_iload_n d_TrustDeskModel_readRule_235 rfl rfl ?_
                  refine mv_iconst (v := 4) d_TrustDeskModel_readRule_236 (by decide) ?_
                  have := mz_hi v10
                  refine mv_icmp_neZ (tgt := 245) (a := v10.toInt) (b := 4) d_TrustDeskModel_readRule_237 (by decide) rfl (by decide) (fun b195 => ?_) (fun b195 => absurd b195 (by omega))
                  refine mv_bipush (v := 40) d_TrustDeskModel_readRule_245 (by decide) ?_
                  obtain ⟨_, b202, -⟩ := I42.1 _ _ t53
                  have : (1 : Int32).toInt = 1 := by decide
                  have : (40 : Int32).toInt = 40 := by decide
                  refine mv_callV (kc' := 0) (ks' := 0) (As := [.int 1, .int 40]) (st9 := [.int 40, .int 1, .ref o0, .int v44, .ref a190]) d_TrustDeskModel_readRule_247 lV_TrustDeskModel_317 b202 rfl (tc_TrustDeskModel_number_x (d := (d + 3)) (x9 := x9) (o0 := o0) (x1 := 1) (x2 := 40) t53 R45 E60.1 (E60.s yS (by decide)) f52 I42.start) rfl (Nat.le_of_ble_eq_true rfl) (Nat.le_of_ble_eq_true rfl) (Nat.le_of_ble_eq_true rfl) (hst := rfl) (fun b196r M197 n198 b196 => ?_)
                  obtain ⟨T199, J200, v203, rfl, R204, f205, f206, f207, f208⟩ := b196
                  have I201 := I42.call J200 (tm_sub (by decide)) (Or.inl rfl)
                  have t209 := J200.up t53
                  have t210 := J200.up t_a190
                  have := f205.2.1
                  have f211 := Im.i f205.w.2
                  have f212 := Im.i f205.w2
                  replace f208 := Im.i f208
                  have z213 := (rv_c I42 J200 (I42.up h_o0) (k := 22) rfl).trans z57
                  have z214 := (rv_c I42 J200 (I42.up h_o0) (k := 24) rfl).trans z58
                  have z215 := (ra_call I42 J200 (I42.up h_o0) (k := 5) rfl rfl rfl 44).trans z59
                  have z216 := (ra_call I42 J200 (I42.up h_o0) (k := 6) rfl rfl rfl 44)
                  have z217 := (ra_call I42 J200 (I42.up h_o0) (k := 7) rfl rfl rfl ((880 + ra M0 o0 6 44).toNat))
                  have z218 := (ra_call I42 J200 (I42.up h_o0) (k := 10) rfl rfl rfl ((880 + ra M0 o0 6 44).toNat))
                  have E219 : rE M0 M197 o0 0 2 := E60.trans f205 (by decide) (yR.2 5 _ _ rfl 44).1 (by decide) (by decide)
                  have K220 : rK M0 M197 o0 ((880 + ra M0 o0 6 44).toNat) := K62.same (sA_c I42 J200 (I42.up h_o0) (by decide +kernel))
                  have K221 : nN M197 o0 := K63.same (sA_c I42 J200 (I42.up h_o0) (by decide +kernel)) (sF_c I42 J200 (I42.up h_o0) (by decide +kernel))
                  rw [show (1 : Int32).toInt = 1 from by decide] at f207
                  rw [show (40 : Int32).toInt = 40 from by decide] at f207
                  obtain ⟨s222, e223⟩ : ∃ s9 : p_S, p_num pb pn 1 40 s64 = s9 := ⟨_, rfl⟩
                  rw [e223] at f207
                  have := f207.w
                  clear z57 z58 z59
                  have q224 := J200.keep t53 (by decide) q66
                  have t225 := J200.up t67
                  have q226 := J200.keep t53 (by decide) q189
                  refine tr_iastR (k := 8) I201 R204 (I201.up h_o0) q226 t210 (by decide) (by decide) (fun lo hi h => by cases h; have := R204.1 15 _ _ rfl; have := R204.1 16 _ _ rfl; have := R204.1 19 _ _ rfl; exact ⟨by show ((-1) : Int) ≤ v203.toInt; omega, by show v203.toInt ≤ (720 : Int); omega⟩) (Or.inl (by decide)) d_TrustDeskModel_readRule_250 (vp_in_iff.mpr (by have := R204.1 15 _ _ rfl; have := R204.1 16 _ _ rfl; have := R204.1 19 _ _ rfl; omega)) (fun M227 I228 K229 R230 E231 A232 V233 => ?_)
                  have z234 := (V233 15)
                  have z235 := (V233 16)
                  have z236 := (V233 17)
                  have z237 := (V233 19)
                  have z238 := (V233 22).trans z213
                  have z239 := (V233 24).trans z214
                  have z240 := (A232 5 (by decide) rfl 44).trans z215
                  have z241 := (A232 6 (by decide) rfl 44).trans z216
                  have z242 := (A232 7 (by decide) rfl ((880 + ra M0 o0 6 44).toNat)).trans z217
                  have z243 := (A232 10 (by decide) rfl ((880 + ra M0 o0 6 44).toNat)).trans z218
                  have E244 : rE M0 M227 o0 0 2 := E219.same (fun k _ _ => V233 k) (fun k h1 h2 => A232 k (by omega) (by rcases (show k = 4 ∨ k = 5 by omega) with rfl | rfl <;> rfl))
                  have h245 : (880 + ra M0 o0 6 44).toNat = v44.toNatClampNeg := by have := mz_nat9 (i := v44) (by have := R204.1 15 _ _ rfl; have := R204.1 16 _ _ rfl; have := R204.1 19 _ _ rfl; omega); have := R204.1 15 _ _ rfl; have := R204.1 16 _ _ rfl; have := R204.1 19 _ _ rfl; omega
                  have z246 : ra M227 o0 8 ((880 + ra M0 o0 6 44).toNat) = v203.toInt := (E231 _).trans (if_pos h245)
                  have K247 : rK M0 M227 o0 ((880 + ra M0 o0 6 44).toNat) := K220.st A232 E231 (by have := mz_nat9 (i := v44) (by have := R204.1 15 _ _ rfl; have := R204.1 16 _ _ rfl; have := R204.1 19 _ _ rfl; omega); have := R204.1 15 _ _ rfl; have := R204.1 16 _ _ rfl; have := R204.1 19 _ _ rfl; omega)
                  have K248 : nN M227 o0 := K221.same (sA_a A232 (by decide +kernel)) (sF_a V233)
                  have Z9249 : pO M227 o0 pb pn pa s222 := f207.same (fun k _ _ => V233 k) (V233 23) (A232 13 (by decide) rfl)
                  clear z213 z214 z215 z216 z217 z218
                  refine mv_aload_n d_TrustDeskModel_readRule_251 rfl rfl ?_
                  refine mv_bipush (v := 59) d_TrustDeskModel_readRule_252 (by decide) ?_
                  obtain ⟨_, b256, -⟩ := I228.1 _ _ t209
                  have : (59 : Int32).toInt = 59 := by decide
                  refine mv_callV (kc' := 0) (ks' := 0) (As := [.int 59]) (st9 := [.int 59, .ref o0]) d_TrustDeskModel_readRule_254 lV_TrustDeskModel_291 b256 rfl (tc_TrustDeskModel_wantSign_x (d := (d + 3)) (x9 := x9) (o0 := o0) (x1 := 59) t209 R230 E244.1 (E244.s yS (by decide)) (by decide) Z9249 I228.start) rfl (Nat.le_of_ble_eq_true rfl) (Nat.le_of_ble_eq_true rfl) (Nat.le_of_ble_eq_true rfl) (hst := rfl) (fun b250r M251 n252 b250 => ?_)
                  obtain ⟨T253, J254, rfl, R257, f258, f259⟩ := b250
                  have I255 := I228.call J254 (tm_sub (by decide)) (Or.inl rfl)
                  have t260 := J254.up t209
                  have := f258.2.1
                  have f261 := Im.i f258.w.2
                  have f262 := Im.i f258.w2
                  have z263 := (rv_c I228 J254 (I228.up h_o0) (k := 22) rfl).trans z238
                  have z264 := (rv_c I228 J254 (I228.up h_o0) (k := 24) rfl).trans z239
                  have z265 := (ra_call I228 J254 (I228.up h_o0) (k := 5) rfl rfl rfl 44).trans z240
                  have z266 := (ra_call I228 J254 (I228.up h_o0) (k := 6) rfl rfl rfl 44).trans z241
                  have z267 := (ra_call I228 J254 (I228.up h_o0) (k := 7) rfl rfl rfl ((880 + ra M0 o0 6 44).toNat)).trans z242
                  have z268 := (ra_call I228 J254 (I228.up h_o0) (k := 10) rfl rfl rfl ((880 + ra M0 o0 6 44).toNat)).trans z243
                  have z269 := (ra_call I228 J254 (I228.up h_o0) (k := 8) rfl rfl rfl ((880 + ra M0 o0 6 44).toNat)).trans z246
                  have E270 : rE M0 M251 o0 0 3 := E244.trans f258 (by decide) (yR.2 5 _ _ rfl 44).1 (by decide) (by decide)
                  have K271 : rK M0 M251 o0 ((880 + ra M0 o0 6 44).toNat) := K247.same (sA_c I228 J254 (I228.up h_o0) (by decide +kernel))
                  have K272 : nN M251 o0 := K248.same (sA_c I228 J254 (I228.up h_o0) (by decide +kernel)) (sF_c I228 J254 (I228.up h_o0) (by decide +kernel))
                  rw [show (59 : Int32).toInt = 59 from by decide] at f259
                  obtain ⟨s273, e274⟩ : ∃ s9 : p_S, p_sg pb pn 59 s222 = s9 := ⟨_, rfl⟩
                  rw [e274] at f259
                  have := f259.w
                  clear z238 z239 z240 z241 z242 z243 z246
                  have q275 := J254.keep t209 (by decide) (K229 _ 13 6 _ q224)
                  have t276 := J254.up t225
                  have q277 := J254.keep t209 (by decide) (K229 _ 13 8 _ q226)
                  have t278 := J254.up t210
                  refine mv_aload_n d_TrustDeskModel_readRule_257 rfl rfl ?_
                  obtain ⟨a280, q279, t_a280⟩ := tm_atR I255 t260 (k := 12) rfl
                  refine tr_getK q279 d_TrustDeskModel_readRule_258 f_TrustDeskModel_41_13 ?_
                  refine mv_iload_n d_TrustDeskModel_readRule_261 rfl rfl ?_
                  refine mv_aload_n d_TrustDeskModel_readRule_262 rfl rfl ?_
                  obtain ⟨a282, q281, t_a282⟩ := tm_atR I255 t260 (k := 5) rfl
                  refine tr_getK q281 d_TrustDeskModel_readRule_263 f_TrustDeskModel_20_13 ?_
                  refine mv_bipush (v := 44) d_TrustDeskModel_readRule_266 (by decide) ?_
                  refine tr_ialdR (o := o0) (k := 5) I255 q281 t_a282 (by decide) d_TrustDeskModel_readRule_268 (by unfold vp_in; decide) (fun v283 e284 => ?_)
                  have := R257.a (k := 5) rfl (44 : Int32).toNatClampNeg
                  have : v283.toInt = ra M251 o0 5 44 := e284
                  have : v283.toInt = _ := Eq.trans e284 z265
                  refine tr_iastR (k := 12) I255 R257 (I255.up h_o0) q279 t_a280 (by decide) (by decide) (fun lo hi h => by cases h; have := R257.1 15 _ _ rfl; have := R257.1 16 _ _ rfl; have := R257.1 19 _ _ rfl; exact ⟨by show (0 : Int) ≤ v283.toInt; omega, by show v283.toInt ≤ (400 : Int); omega⟩) (Or.inl (by decide)) d_TrustDeskModel_readRule_269 (vp_in_iff.mpr (by have := R257.1 15 _ _ rfl; have := R257.1 16 _ _ rfl; have := R257.1 19 _ _ rfl; omega)) (fun M285 I286 K287 R288 E289 A290 V291 => ?_)
                  have z292 := (V291 15)
                  have z293 := (V291 16)
                  have z294 := (V291 17)
                  have z295 := (V291 19)
                  have z296 := (V291 22).trans z263
                  have z297 := (V291 24).trans z264
                  have z298 := (A290 5 (by decide) rfl 44).trans z265
                  have z299 := (A290 6 (by decide) rfl 44).trans z266
                  have z300 := (A290 7 (by decide) rfl ((880 + ra M0 o0 6 44).toNat)).trans z267
                  have z301 := (A290 10 (by decide) rfl ((880 + ra M0 o0 6 44).toNat)).trans z268
                  have z302 := (A290 8 (by decide) rfl ((880 + ra M0 o0 6 44).toNat)).trans z269
                  have E303 : rE M0 M285 o0 0 3 := E270.same (fun k _ _ => V291 k) (fun k h1 h2 => A290 k (by omega) (by rcases (show k = 4 ∨ k = 5 by omega) with rfl | rfl <;> rfl))
                  have h304 : (880 + ra M0 o0 6 44).toNat = v44.toNatClampNeg := by have := mz_nat9 (i := v44) (by have := R257.1 15 _ _ rfl; have := R257.1 16 _ _ rfl; have := R257.1 19 _ _ rfl; omega); have := R257.1 15 _ _ rfl; have := R257.1 16 _ _ rfl; have := R257.1 19 _ _ rfl; omega
                  have z305 : ra M285 o0 12 ((880 + ra M0 o0 6 44).toNat) = v283.toInt := (E289 _).trans (if_pos h304)
                  have K306 : rK M0 M285 o0 ((880 + ra M0 o0 6 44).toNat) := K271.st A290 E289 (by have := mz_nat9 (i := v44) (by have := R257.1 15 _ _ rfl; have := R257.1 16 _ _ rfl; have := R257.1 19 _ _ rfl; omega); have := R257.1 15 _ _ rfl; have := R257.1 16 _ _ rfl; have := R257.1 19 _ _ rfl; omega)
                  have K307 : nN M285 o0 := K272.same (sA_a A290 (by decide +kernel)) (sF_a V291)
                  have Z9308 : pO M285 o0 pb pn pa s273 := f259.same (fun k _ _ => V291 k) (V291 23) (A290 13 (by decide) rfl)
                  clear z263 z264 z265 z266 z267 z268 z269
                  exact mv_vret d_TrustDeskModel_readRule_270 rfl ⟨_, I286, rfl, R288, (rW.of E303.1 (E303.s yS (by decide)) (fun w9 => by have u91 : rv M251 o0 19 = 0 := (by omega); have := f261.o u91; have := f262.o u91; have u92 : rv M197 o0 19 = 0 := (by omega); have := f211.o u92; have := f212.o u92; have := f208.o u92; have u93 : rv M38 o0 19 = 0 := (by omega); have := f54.o u93; have := f55.o u93; exact rG.step yG yR E303 w9 K306 (by have := yR.2 6 _ _ rfl 44; omega) (by have := R288.1 15 _ _ rfl; have := R288.1 16 _ _ rfl; have := R288.1 19 _ _ rfl; omega) (by have := R288.1 15 _ _ rfl; have := R288.1 16 _ _ rfl; have := R288.1 19 _ _ rfl; omega) (fun h9 => by exfalso; have := R288.1 15 _ _ rfl; have := R288.1 16 _ _ rfl; have := R288.1 19 _ _ rfl; omega) (fun h9 => (by have := R288.1 15 _ _ rfl; have := R288.1 16 _ _ rfl; have := R288.1 19 _ _ rfl; omega)) (by have := R288.1 15 _ _ rfl; have := R288.1 16 _ _ rfl; have := R288.1 19 _ _ rfl; omega) K307)), (rO.of E303 K306 (by have := yR.2 6 _ _ rfl 44; omega)), ⟨E303.2.1, fun w9 => by skip; have := E303.w2 w9; omega⟩, (fun w9 => by have u91 : rv M251 o0 19 = 0 := (by omega); have := f261.o u91; have := f262.o u91; have u92 : rv M197 o0 19 = 0 := (by omega); have := f211.o u92; have := f212.o u92; have := f208.o u92; have u93 : rv M38 o0 19 = 0 := (by omega); have := f54.o u93; have := f55.o u93; omega), (by first | (have hlo : p_lo (p_wi pb pn ps.2.2) = 1 := (by unfold p_lo; split <;> omega); have hhi : p_hi (p_wi pb pn ps.2.2) = 40 := (by unfold p_hi; (repeat' split) <;> omega); rw [show p_rul pb pn pa pc9 ps = s273 from (by unfold p_rul; unfold p_bar; rw [hlo, hhi]; (try simp only [e65, e223, e274]); ((repeat' (first | (with_reducible rfl) | split)) <;> (first | ((try simp only [e65, e223, e274]); done) | ((try simp only [e65, e223, e274]); first | exact p_sg_Z _ (by omega) | exact (p_sg_Z _ (by omega)).symm | omega) | (exfalso; omega))))]; exact Z9308) | (exfalso; have := R288.1 15 _ _ rfl; have := R288.1 16 _ _ rfl; have := R288.1 19 _ _ rfl; omega)), (fun w9 => by have u91 : rv M251 o0 19 = 0 := (by omega); have := f261.o u91; have := f262.o u91; have u92 : rv M197 o0 19 = 0 := (by omega); have := f211.o u92; have := f212.o u92; have := f208.o u92; have u93 : rv M38 o0 19 = 0 := (by omega); have := f54.o u93; have := f55.o u93; omega)⟩
                · refine mv_sipush (v := 720) d_TrustDeskModel_readRule_229 (by decide) ?_
                  refine mv_goto (tgt := 247) d_TrustDeskModel_readRule_232 (by decide) ?_
                  obtain ⟨_, b315, -⟩ := I42.1 _ _ t53
                  have : (1 : Int32).toInt = 1 := by decide
                  have : (720 : Int32).toInt = 720 := by decide
                  refine mv_callV (kc' := 0) (ks' := 0) (As := [.int 1, .int 720]) (st9 := [.int 720, .int 1, .ref o0, .int v44, .ref a190]) d_TrustDeskModel_readRule_247 lV_TrustDeskModel_317 b315 rfl (tc_TrustDeskModel_number_x (d := (d + 3)) (x9 := x9) (o0 := o0) (x1 := 1) (x2 := 720) t53 R45 E60.1 (E60.s yS (by decide)) f52 I42.start) rfl (Nat.le_of_ble_eq_true rfl) (Nat.le_of_ble_eq_true rfl) (Nat.le_of_ble_eq_true rfl) (hst := rfl) (fun b309r M310 n311 b309 => ?_)
                  obtain ⟨T312, J313, v316, rfl, R317, f318, f319, f320, f321⟩ := b309
                  have I314 := I42.call J313 (tm_sub (by decide)) (Or.inl rfl)
                  have t322 := J313.up t53
                  have t323 := J313.up t_a190
                  have := f318.2.1
                  have f324 := Im.i f318.w.2
                  have f325 := Im.i f318.w2
                  replace f321 := Im.i f321
                  have z326 := (rv_c I42 J313 (I42.up h_o0) (k := 22) rfl).trans z57
                  have z327 := (rv_c I42 J313 (I42.up h_o0) (k := 24) rfl).trans z58
                  have z328 := (ra_call I42 J313 (I42.up h_o0) (k := 5) rfl rfl rfl 44).trans z59
                  have z329 := (ra_call I42 J313 (I42.up h_o0) (k := 6) rfl rfl rfl 44)
                  have z330 := (ra_call I42 J313 (I42.up h_o0) (k := 7) rfl rfl rfl ((880 + ra M0 o0 6 44).toNat))
                  have z331 := (ra_call I42 J313 (I42.up h_o0) (k := 10) rfl rfl rfl ((880 + ra M0 o0 6 44).toNat))
                  have E332 : rE M0 M310 o0 0 2 := E60.trans f318 (by decide) (yR.2 5 _ _ rfl 44).1 (by decide) (by decide)
                  have K333 : rK M0 M310 o0 ((880 + ra M0 o0 6 44).toNat) := K62.same (sA_c I42 J313 (I42.up h_o0) (by decide +kernel))
                  have K334 : nN M310 o0 := K63.same (sA_c I42 J313 (I42.up h_o0) (by decide +kernel)) (sF_c I42 J313 (I42.up h_o0) (by decide +kernel))
                  rw [show (1 : Int32).toInt = 1 from by decide] at f320
                  rw [show (720 : Int32).toInt = 720 from by decide] at f320
                  obtain ⟨s335, e336⟩ : ∃ s9 : p_S, p_num pb pn 1 720 s64 = s9 := ⟨_, rfl⟩
                  rw [e336] at f320
                  have := f320.w
                  clear z57 z58 z59
                  have q337 := J313.keep t53 (by decide) q66
                  have t338 := J313.up t67
                  have q339 := J313.keep t53 (by decide) q189
                  refine tr_iastR (k := 8) I314 R317 (I314.up h_o0) q339 t323 (by decide) (by decide) (fun lo hi h => by cases h; have := R317.1 15 _ _ rfl; have := R317.1 16 _ _ rfl; have := R317.1 19 _ _ rfl; exact ⟨by show ((-1) : Int) ≤ v316.toInt; omega, by show v316.toInt ≤ (720 : Int); omega⟩) (Or.inl (by decide)) d_TrustDeskModel_readRule_250 (vp_in_iff.mpr (by have := R317.1 15 _ _ rfl; have := R317.1 16 _ _ rfl; have := R317.1 19 _ _ rfl; omega)) (fun M340 I341 K342 R343 E344 A345 V346 => ?_)
                  have z347 := (V346 15)
                  have z348 := (V346 16)
                  have z349 := (V346 17)
                  have z350 := (V346 19)
                  have z351 := (V346 22).trans z326
                  have z352 := (V346 24).trans z327
                  have z353 := (A345 5 (by decide) rfl 44).trans z328
                  have z354 := (A345 6 (by decide) rfl 44).trans z329
                  have z355 := (A345 7 (by decide) rfl ((880 + ra M0 o0 6 44).toNat)).trans z330
                  have z356 := (A345 10 (by decide) rfl ((880 + ra M0 o0 6 44).toNat)).trans z331
                  have E357 : rE M0 M340 o0 0 2 := E332.same (fun k _ _ => V346 k) (fun k h1 h2 => A345 k (by omega) (by rcases (show k = 4 ∨ k = 5 by omega) with rfl | rfl <;> rfl))
                  have h358 : (880 + ra M0 o0 6 44).toNat = v44.toNatClampNeg := by have := mz_nat9 (i := v44) (by have := R317.1 15 _ _ rfl; have := R317.1 16 _ _ rfl; have := R317.1 19 _ _ rfl; omega); have := R317.1 15 _ _ rfl; have := R317.1 16 _ _ rfl; have := R317.1 19 _ _ rfl; omega
                  have z359 : ra M340 o0 8 ((880 + ra M0 o0 6 44).toNat) = v316.toInt := (E344 _).trans (if_pos h358)
                  have K360 : rK M0 M340 o0 ((880 + ra M0 o0 6 44).toNat) := K333.st A345 E344 (by have := mz_nat9 (i := v44) (by have := R317.1 15 _ _ rfl; have := R317.1 16 _ _ rfl; have := R317.1 19 _ _ rfl; omega); have := R317.1 15 _ _ rfl; have := R317.1 16 _ _ rfl; have := R317.1 19 _ _ rfl; omega)
                  have K361 : nN M340 o0 := K334.same (sA_a A345 (by decide +kernel)) (sF_a V346)
                  have Z9362 : pO M340 o0 pb pn pa s335 := f320.same (fun k _ _ => V346 k) (V346 23) (A345 13 (by decide) rfl)
                  clear z326 z327 z328 z329 z330 z331
                  refine mv_aload_n d_TrustDeskModel_readRule_251 rfl rfl ?_
                  refine mv_bipush (v := 59) d_TrustDeskModel_readRule_252 (by decide) ?_
                  obtain ⟨_, b369, -⟩ := I341.1 _ _ t322
                  have : (59 : Int32).toInt = 59 := by decide
                  refine mv_callV (kc' := 0) (ks' := 0) (As := [.int 59]) (st9 := [.int 59, .ref o0]) d_TrustDeskModel_readRule_254 lV_TrustDeskModel_291 b369 rfl (tc_TrustDeskModel_wantSign_x (d := (d + 3)) (x9 := x9) (o0 := o0) (x1 := 59) t322 R343 E357.1 (E357.s yS (by decide)) (by decide) Z9362 I341.start) rfl (Nat.le_of_ble_eq_true rfl) (Nat.le_of_ble_eq_true rfl) (Nat.le_of_ble_eq_true rfl) (hst := rfl) (fun b363r M364 n365 b363 => ?_)
                  obtain ⟨T366, J367, rfl, R370, f371, f372⟩ := b363
                  have I368 := I341.call J367 (tm_sub (by decide)) (Or.inl rfl)
                  have t373 := J367.up t322
                  have := f371.2.1
                  have f374 := Im.i f371.w.2
                  have f375 := Im.i f371.w2
                  have z376 := (rv_c I341 J367 (I341.up h_o0) (k := 22) rfl).trans z351
                  have z377 := (rv_c I341 J367 (I341.up h_o0) (k := 24) rfl).trans z352
                  have z378 := (ra_call I341 J367 (I341.up h_o0) (k := 5) rfl rfl rfl 44).trans z353
                  have z379 := (ra_call I341 J367 (I341.up h_o0) (k := 6) rfl rfl rfl 44).trans z354
                  have z380 := (ra_call I341 J367 (I341.up h_o0) (k := 7) rfl rfl rfl ((880 + ra M0 o0 6 44).toNat)).trans z355
                  have z381 := (ra_call I341 J367 (I341.up h_o0) (k := 10) rfl rfl rfl ((880 + ra M0 o0 6 44).toNat)).trans z356
                  have z382 := (ra_call I341 J367 (I341.up h_o0) (k := 8) rfl rfl rfl ((880 + ra M0 o0 6 44).toNat)).trans z359
                  have E383 : rE M0 M364 o0 0 3 := E357.trans f371 (by decide) (yR.2 5 _ _ rfl 44).1 (by decide) (by decide)
                  have K384 : rK M0 M364 o0 ((880 + ra M0 o0 6 44).toNat) := K360.same (sA_c I341 J367 (I341.up h_o0) (by decide +kernel))
                  have K385 : nN M364 o0 := K361.same (sA_c I341 J367 (I341.up h_o0) (by decide +kernel)) (sF_c I341 J367 (I341.up h_o0) (by decide +kernel))
                  rw [show (59 : Int32).toInt = 59 from by decide] at f372
                  obtain ⟨s386, e387⟩ : ∃ s9 : p_S, p_sg pb pn 59 s335 = s9 := ⟨_, rfl⟩
                  rw [e387] at f372
                  have := f372.w
                  clear z351 z352 z353 z354 z355 z356 z359
                  have q388 := J367.keep t322 (by decide) (K342 _ 13 6 _ q337)
                  have t389 := J367.up t338
                  have q390 := J367.keep t322 (by decide) (K342 _ 13 8 _ q339)
                  have t391 := J367.up t323
                  refine mv_aload_n d_TrustDeskModel_readRule_257 rfl rfl ?_
                  obtain ⟨a393, q392, t_a393⟩ := tm_atR I368 t373 (k := 12) rfl
                  refine tr_getK q392 d_TrustDeskModel_readRule_258 f_TrustDeskModel_41_13 ?_
                  refine mv_iload_n d_TrustDeskModel_readRule_261 rfl rfl ?_
                  refine mv_aload_n d_TrustDeskModel_readRule_262 rfl rfl ?_
                  obtain ⟨a395, q394, t_a395⟩ := tm_atR I368 t373 (k := 5) rfl
                  refine tr_getK q394 d_TrustDeskModel_readRule_263 f_TrustDeskModel_20_13 ?_
                  refine mv_bipush (v := 44) d_TrustDeskModel_readRule_266 (by decide) ?_
                  refine tr_ialdR (o := o0) (k := 5) I368 q394 t_a395 (by decide) d_TrustDeskModel_readRule_268 (by unfold vp_in; decide) (fun v396 e397 => ?_)
                  have := R370.a (k := 5) rfl (44 : Int32).toNatClampNeg
                  have : v396.toInt = ra M364 o0 5 44 := e397
                  have : v396.toInt = _ := Eq.trans e397 z378
                  refine tr_iastR (k := 12) I368 R370 (I368.up h_o0) q392 t_a393 (by decide) (by decide) (fun lo hi h => by cases h; have := R370.1 15 _ _ rfl; have := R370.1 16 _ _ rfl; have := R370.1 19 _ _ rfl; exact ⟨by show (0 : Int) ≤ v396.toInt; omega, by show v396.toInt ≤ (400 : Int); omega⟩) (Or.inl (by decide)) d_TrustDeskModel_readRule_269 (vp_in_iff.mpr (by have := R370.1 15 _ _ rfl; have := R370.1 16 _ _ rfl; have := R370.1 19 _ _ rfl; omega)) (fun M398 I399 K400 R401 E402 A403 V404 => ?_)
                  have z405 := (V404 15)
                  have z406 := (V404 16)
                  have z407 := (V404 17)
                  have z408 := (V404 19)
                  have z409 := (V404 22).trans z376
                  have z410 := (V404 24).trans z377
                  have z411 := (A403 5 (by decide) rfl 44).trans z378
                  have z412 := (A403 6 (by decide) rfl 44).trans z379
                  have z413 := (A403 7 (by decide) rfl ((880 + ra M0 o0 6 44).toNat)).trans z380
                  have z414 := (A403 10 (by decide) rfl ((880 + ra M0 o0 6 44).toNat)).trans z381
                  have z415 := (A403 8 (by decide) rfl ((880 + ra M0 o0 6 44).toNat)).trans z382
                  have E416 : rE M0 M398 o0 0 3 := E383.same (fun k _ _ => V404 k) (fun k h1 h2 => A403 k (by omega) (by rcases (show k = 4 ∨ k = 5 by omega) with rfl | rfl <;> rfl))
                  have h417 : (880 + ra M0 o0 6 44).toNat = v44.toNatClampNeg := by have := mz_nat9 (i := v44) (by have := R370.1 15 _ _ rfl; have := R370.1 16 _ _ rfl; have := R370.1 19 _ _ rfl; omega); have := R370.1 15 _ _ rfl; have := R370.1 16 _ _ rfl; have := R370.1 19 _ _ rfl; omega
                  have z418 : ra M398 o0 12 ((880 + ra M0 o0 6 44).toNat) = v396.toInt := (E402 _).trans (if_pos h417)
                  have K419 : rK M0 M398 o0 ((880 + ra M0 o0 6 44).toNat) := K384.st A403 E402 (by have := mz_nat9 (i := v44) (by have := R370.1 15 _ _ rfl; have := R370.1 16 _ _ rfl; have := R370.1 19 _ _ rfl; omega); have := R370.1 15 _ _ rfl; have := R370.1 16 _ _ rfl; have := R370.1 19 _ _ rfl; omega)
                  have K420 : nN M398 o0 := K385.same (sA_a A403 (by decide +kernel)) (sF_a V404)
                  have Z9421 : pO M398 o0 pb pn pa s386 := f372.same (fun k _ _ => V404 k) (V404 23) (A403 13 (by decide) rfl)
                  clear z376 z377 z378 z379 z380 z381 z382
                  exact mv_vret d_TrustDeskModel_readRule_270 rfl ⟨_, I399, rfl, R401, (rW.of E416.1 (E416.s yS (by decide)) (fun w9 => by have u91 : rv M364 o0 19 = 0 := (by omega); have := f374.o u91; have := f375.o u91; have u92 : rv M310 o0 19 = 0 := (by omega); have := f324.o u92; have := f325.o u92; have := f321.o u92; have u93 : rv M38 o0 19 = 0 := (by omega); have := f54.o u93; have := f55.o u93; exact rG.step yG yR E416 w9 K419 (by have := yR.2 6 _ _ rfl 44; omega) (by have := R401.1 15 _ _ rfl; have := R401.1 16 _ _ rfl; have := R401.1 19 _ _ rfl; omega) (by have := R401.1 15 _ _ rfl; have := R401.1 16 _ _ rfl; have := R401.1 19 _ _ rfl; omega) (fun h9 => by exfalso; have := R401.1 15 _ _ rfl; have := R401.1 16 _ _ rfl; have := R401.1 19 _ _ rfl; omega) (fun h9 => (by have := R401.1 15 _ _ rfl; have := R401.1 16 _ _ rfl; have := R401.1 19 _ _ rfl; omega)) (by have := R401.1 15 _ _ rfl; have := R401.1 16 _ _ rfl; have := R401.1 19 _ _ rfl; omega) K420)), (rO.of E416 K419 (by have := yR.2 6 _ _ rfl 44; omega)), ⟨E416.2.1, fun w9 => by skip; have := E416.w2 w9; omega⟩, (fun w9 => by have u91 : rv M364 o0 19 = 0 := (by omega); have := f374.o u91; have := f375.o u91; have u92 : rv M310 o0 19 = 0 := (by omega); have := f324.o u92; have := f325.o u92; have := f321.o u92; have u93 : rv M38 o0 19 = 0 := (by omega); have := f54.o u93; have := f55.o u93; omega), (by first | (have hlo : p_lo (p_wi pb pn ps.2.2) = 1 := (by unfold p_lo; split <;> omega); have hhi : p_hi (p_wi pb pn ps.2.2) = 720 := (by unfold p_hi; (repeat' split) <;> omega); rw [show p_rul pb pn pa pc9 ps = s386 from (by unfold p_rul; unfold p_bar; rw [hlo, hhi]; (try simp only [e65, e336, e387]); ((repeat' (first | (with_reducible rfl) | split)) <;> (first | ((try simp only [e65, e336, e387]); done) | ((try simp only [e65, e336, e387]); first | exact p_sg_Z _ (by omega) | exact (p_sg_Z _ (by omega)).symm | omega) | (exfalso; omega))))]; exact Z9421) | (exfalso; have := R401.1 15 _ _ rfl; have := R401.1 16 _ _ rfl; have := R401.1 19 _ _ rfl; omega)), (fun w9 => by have u91 : rv M364 o0 19 = 0 := (by omega); have := f374.o u91; have := f375.o u91; have u92 : rv M310 o0 19 = 0 := (by omega); have := f324.o u92; have := f325.o u92; have := f321.o u92; have u93 : rv M38 o0 19 = 0 := (by omega); have := f54.o u93; have := f55.o u93; omega)⟩
              · refine mv_sipush (v := 360) d_TrustDeskModel_readRule_218 (by decide) ?_
                refine mv_goto (tgt := 247) d_TrustDeskModel_readRule_221 (by decide) ?_
                obtain ⟨_, b428, -⟩ := I42.1 _ _ t53
                have : (1 : Int32).toInt = 1 := by decide
                have : (360 : Int32).toInt = 360 := by decide
                refine mv_callV (kc' := 0) (ks' := 0) (As := [.int 1, .int 360]) (st9 := [.int 360, .int 1, .ref o0, .int v44, .ref a190]) d_TrustDeskModel_readRule_247 lV_TrustDeskModel_317 b428 rfl (tc_TrustDeskModel_number_x (d := (d + 3)) (x9 := x9) (o0 := o0) (x1 := 1) (x2 := 360) t53 R45 E60.1 (E60.s yS (by decide)) f52 I42.start) rfl (Nat.le_of_ble_eq_true rfl) (Nat.le_of_ble_eq_true rfl) (Nat.le_of_ble_eq_true rfl) (hst := rfl) (fun b422r M423 n424 b422 => ?_)
                obtain ⟨T425, J426, v429, rfl, R430, f431, f432, f433, f434⟩ := b422
                have I427 := I42.call J426 (tm_sub (by decide)) (Or.inl rfl)
                have t435 := J426.up t53
                have t436 := J426.up t_a190
                have := f431.2.1
                have f437 := Im.i f431.w.2
                have f438 := Im.i f431.w2
                replace f434 := Im.i f434
                have z439 := (rv_c I42 J426 (I42.up h_o0) (k := 22) rfl).trans z57
                have z440 := (rv_c I42 J426 (I42.up h_o0) (k := 24) rfl).trans z58
                have z441 := (ra_call I42 J426 (I42.up h_o0) (k := 5) rfl rfl rfl 44).trans z59
                have z442 := (ra_call I42 J426 (I42.up h_o0) (k := 6) rfl rfl rfl 44)
                have z443 := (ra_call I42 J426 (I42.up h_o0) (k := 7) rfl rfl rfl ((880 + ra M0 o0 6 44).toNat))
                have z444 := (ra_call I42 J426 (I42.up h_o0) (k := 10) rfl rfl rfl ((880 + ra M0 o0 6 44).toNat))
                have E445 : rE M0 M423 o0 0 2 := E60.trans f431 (by decide) (yR.2 5 _ _ rfl 44).1 (by decide) (by decide)
                have K446 : rK M0 M423 o0 ((880 + ra M0 o0 6 44).toNat) := K62.same (sA_c I42 J426 (I42.up h_o0) (by decide +kernel))
                have K447 : nN M423 o0 := K63.same (sA_c I42 J426 (I42.up h_o0) (by decide +kernel)) (sF_c I42 J426 (I42.up h_o0) (by decide +kernel))
                rw [show (1 : Int32).toInt = 1 from by decide] at f433
                rw [show (360 : Int32).toInt = 360 from by decide] at f433
                obtain ⟨s448, e449⟩ : ∃ s9 : p_S, p_num pb pn 1 360 s64 = s9 := ⟨_, rfl⟩
                rw [e449] at f433
                have := f433.w
                clear z57 z58 z59
                have q450 := J426.keep t53 (by decide) q66
                have t451 := J426.up t67
                have q452 := J426.keep t53 (by decide) q189
                refine tr_iastR (k := 8) I427 R430 (I427.up h_o0) q452 t436 (by decide) (by decide) (fun lo hi h => by cases h; have := R430.1 15 _ _ rfl; have := R430.1 16 _ _ rfl; have := R430.1 19 _ _ rfl; exact ⟨by show ((-1) : Int) ≤ v429.toInt; omega, by show v429.toInt ≤ (720 : Int); omega⟩) (Or.inl (by decide)) d_TrustDeskModel_readRule_250 (vp_in_iff.mpr (by have := R430.1 15 _ _ rfl; have := R430.1 16 _ _ rfl; have := R430.1 19 _ _ rfl; omega)) (fun M453 I454 K455 R456 E457 A458 V459 => ?_)
                have z460 := (V459 15)
                have z461 := (V459 16)
                have z462 := (V459 17)
                have z463 := (V459 19)
                have z464 := (V459 22).trans z439
                have z465 := (V459 24).trans z440
                have z466 := (A458 5 (by decide) rfl 44).trans z441
                have z467 := (A458 6 (by decide) rfl 44).trans z442
                have z468 := (A458 7 (by decide) rfl ((880 + ra M0 o0 6 44).toNat)).trans z443
                have z469 := (A458 10 (by decide) rfl ((880 + ra M0 o0 6 44).toNat)).trans z444
                have E470 : rE M0 M453 o0 0 2 := E445.same (fun k _ _ => V459 k) (fun k h1 h2 => A458 k (by omega) (by rcases (show k = 4 ∨ k = 5 by omega) with rfl | rfl <;> rfl))
                have h471 : (880 + ra M0 o0 6 44).toNat = v44.toNatClampNeg := by have := mz_nat9 (i := v44) (by have := R430.1 15 _ _ rfl; have := R430.1 16 _ _ rfl; have := R430.1 19 _ _ rfl; omega); have := R430.1 15 _ _ rfl; have := R430.1 16 _ _ rfl; have := R430.1 19 _ _ rfl; omega
                have z472 : ra M453 o0 8 ((880 + ra M0 o0 6 44).toNat) = v429.toInt := (E457 _).trans (if_pos h471)
                have K473 : rK M0 M453 o0 ((880 + ra M0 o0 6 44).toNat) := K446.st A458 E457 (by have := mz_nat9 (i := v44) (by have := R430.1 15 _ _ rfl; have := R430.1 16 _ _ rfl; have := R430.1 19 _ _ rfl; omega); have := R430.1 15 _ _ rfl; have := R430.1 16 _ _ rfl; have := R430.1 19 _ _ rfl; omega)
                have K474 : nN M453 o0 := K447.same (sA_a A458 (by decide +kernel)) (sF_a V459)
                have Z9475 : pO M453 o0 pb pn pa s448 := f433.same (fun k _ _ => V459 k) (V459 23) (A458 13 (by decide) rfl)
                clear z439 z440 z441 z442 z443 z444
                refine mv_aload_n d_TrustDeskModel_readRule_251 rfl rfl ?_
                refine mv_bipush (v := 59) d_TrustDeskModel_readRule_252 (by decide) ?_
                obtain ⟨_, b482, -⟩ := I454.1 _ _ t435
                have : (59 : Int32).toInt = 59 := by decide
                refine mv_callV (kc' := 0) (ks' := 0) (As := [.int 59]) (st9 := [.int 59, .ref o0]) d_TrustDeskModel_readRule_254 lV_TrustDeskModel_291 b482 rfl (tc_TrustDeskModel_wantSign_x (d := (d + 3)) (x9 := x9) (o0 := o0) (x1 := 59) t435 R456 E470.1 (E470.s yS (by decide)) (by decide) Z9475 I454.start) rfl (Nat.le_of_ble_eq_true rfl) (Nat.le_of_ble_eq_true rfl) (Nat.le_of_ble_eq_true rfl) (hst := rfl) (fun b476r M477 n478 b476 => ?_)
                obtain ⟨T479, J480, rfl, R483, f484, f485⟩ := b476
                have I481 := I454.call J480 (tm_sub (by decide)) (Or.inl rfl)
                have t486 := J480.up t435
                have := f484.2.1
                have f487 := Im.i f484.w.2
                have f488 := Im.i f484.w2
                have z489 := (rv_c I454 J480 (I454.up h_o0) (k := 22) rfl).trans z464
                have z490 := (rv_c I454 J480 (I454.up h_o0) (k := 24) rfl).trans z465
                have z491 := (ra_call I454 J480 (I454.up h_o0) (k := 5) rfl rfl rfl 44).trans z466
                have z492 := (ra_call I454 J480 (I454.up h_o0) (k := 6) rfl rfl rfl 44).trans z467
                have z493 := (ra_call I454 J480 (I454.up h_o0) (k := 7) rfl rfl rfl ((880 + ra M0 o0 6 44).toNat)).trans z468
                have z494 := (ra_call I454 J480 (I454.up h_o0) (k := 10) rfl rfl rfl ((880 + ra M0 o0 6 44).toNat)).trans z469
                have z495 := (ra_call I454 J480 (I454.up h_o0) (k := 8) rfl rfl rfl ((880 + ra M0 o0 6 44).toNat)).trans z472
                have E496 : rE M0 M477 o0 0 3 := E470.trans f484 (by decide) (yR.2 5 _ _ rfl 44).1 (by decide) (by decide)
                have K497 : rK M0 M477 o0 ((880 + ra M0 o0 6 44).toNat) := K473.same (sA_c I454 J480 (I454.up h_o0) (by decide +kernel))
                have K498 : nN M477 o0 := K474.same (sA_c I454 J480 (I454.up h_o0) (by decide +kernel)) (sF_c I454 J480 (I454.up h_o0) (by decide +kernel))
                rw [show (59 : Int32).toInt = 59 from by decide] at f485
                obtain ⟨s499, e500⟩ : ∃ s9 : p_S, p_sg pb pn 59 s448 = s9 := ⟨_, rfl⟩
                rw [e500] at f485
                have := f485.w
                clear z464 z465 z466 z467 z468 z469 z472
                have q501 := J480.keep t435 (by decide) (K455 _ 13 6 _ q450)
                have t502 := J480.up t451
                have q503 := J480.keep t435 (by decide) (K455 _ 13 8 _ q452)
                have t504 := J480.up t436
                refine mv_aload_n d_TrustDeskModel_readRule_257 rfl rfl ?_
                obtain ⟨a506, q505, t_a506⟩ := tm_atR I481 t486 (k := 12) rfl
                refine tr_getK q505 d_TrustDeskModel_readRule_258 f_TrustDeskModel_41_13 ?_
                refine mv_iload_n d_TrustDeskModel_readRule_261 rfl rfl ?_
                refine mv_aload_n d_TrustDeskModel_readRule_262 rfl rfl ?_
                obtain ⟨a508, q507, t_a508⟩ := tm_atR I481 t486 (k := 5) rfl
                refine tr_getK q507 d_TrustDeskModel_readRule_263 f_TrustDeskModel_20_13 ?_
                refine mv_bipush (v := 44) d_TrustDeskModel_readRule_266 (by decide) ?_
                refine tr_ialdR (o := o0) (k := 5) I481 q507 t_a508 (by decide) d_TrustDeskModel_readRule_268 (by unfold vp_in; decide) (fun v509 e510 => ?_)
                have := R483.a (k := 5) rfl (44 : Int32).toNatClampNeg
                have : v509.toInt = ra M477 o0 5 44 := e510
                have : v509.toInt = _ := Eq.trans e510 z491
                refine tr_iastR (k := 12) I481 R483 (I481.up h_o0) q505 t_a506 (by decide) (by decide) (fun lo hi h => by cases h; have := R483.1 15 _ _ rfl; have := R483.1 16 _ _ rfl; have := R483.1 19 _ _ rfl; exact ⟨by show (0 : Int) ≤ v509.toInt; omega, by show v509.toInt ≤ (400 : Int); omega⟩) (Or.inl (by decide)) d_TrustDeskModel_readRule_269 (vp_in_iff.mpr (by have := R483.1 15 _ _ rfl; have := R483.1 16 _ _ rfl; have := R483.1 19 _ _ rfl; omega)) (fun M511 I512 K513 R514 E515 A516 V517 => ?_)
                have z518 := (V517 15)
                have z519 := (V517 16)
                have z520 := (V517 17)
                have z521 := (V517 19)
                have z522 := (V517 22).trans z489
                have z523 := (V517 24).trans z490
                have z524 := (A516 5 (by decide) rfl 44).trans z491
                have z525 := (A516 6 (by decide) rfl 44).trans z492
                have z526 := (A516 7 (by decide) rfl ((880 + ra M0 o0 6 44).toNat)).trans z493
                have z527 := (A516 10 (by decide) rfl ((880 + ra M0 o0 6 44).toNat)).trans z494
                have z528 := (A516 8 (by decide) rfl ((880 + ra M0 o0 6 44).toNat)).trans z495
                have E529 : rE M0 M511 o0 0 3 := E496.same (fun k _ _ => V517 k) (fun k h1 h2 => A516 k (by omega) (by rcases (show k = 4 ∨ k = 5 by omega) with rfl | rfl <;> rfl))
                have h530 : (880 + ra M0 o0 6 44).toNat = v44.toNatClampNeg := by have := mz_nat9 (i := v44) (by have := R483.1 15 _ _ rfl; have := R483.1 16 _ _ rfl; have := R483.1 19 _ _ rfl; omega); have := R483.1 15 _ _ rfl; have := R483.1 16 _ _ rfl; have := R483.1 19 _ _ rfl; omega
                have z531 : ra M511 o0 12 ((880 + ra M0 o0 6 44).toNat) = v509.toInt := (E515 _).trans (if_pos h530)
                have K532 : rK M0 M511 o0 ((880 + ra M0 o0 6 44).toNat) := K497.st A516 E515 (by have := mz_nat9 (i := v44) (by have := R483.1 15 _ _ rfl; have := R483.1 16 _ _ rfl; have := R483.1 19 _ _ rfl; omega); have := R483.1 15 _ _ rfl; have := R483.1 16 _ _ rfl; have := R483.1 19 _ _ rfl; omega)
                have K533 : nN M511 o0 := K498.same (sA_a A516 (by decide +kernel)) (sF_a V517)
                have Z9534 : pO M511 o0 pb pn pa s499 := f485.same (fun k _ _ => V517 k) (V517 23) (A516 13 (by decide) rfl)
                clear z489 z490 z491 z492 z493 z494 z495
                exact mv_vret d_TrustDeskModel_readRule_270 rfl ⟨_, I512, rfl, R514, (rW.of E529.1 (E529.s yS (by decide)) (fun w9 => by have u91 : rv M477 o0 19 = 0 := (by omega); have := f487.o u91; have := f488.o u91; have u92 : rv M423 o0 19 = 0 := (by omega); have := f437.o u92; have := f438.o u92; have := f434.o u92; have u93 : rv M38 o0 19 = 0 := (by omega); have := f54.o u93; have := f55.o u93; exact rG.step yG yR E529 w9 K532 (by have := yR.2 6 _ _ rfl 44; omega) (by have := R514.1 15 _ _ rfl; have := R514.1 16 _ _ rfl; have := R514.1 19 _ _ rfl; omega) (by have := R514.1 15 _ _ rfl; have := R514.1 16 _ _ rfl; have := R514.1 19 _ _ rfl; omega) (fun h9 => by exfalso; have := R514.1 15 _ _ rfl; have := R514.1 16 _ _ rfl; have := R514.1 19 _ _ rfl; omega) (fun h9 => (by have := R514.1 15 _ _ rfl; have := R514.1 16 _ _ rfl; have := R514.1 19 _ _ rfl; omega)) (by have := R514.1 15 _ _ rfl; have := R514.1 16 _ _ rfl; have := R514.1 19 _ _ rfl; omega) K533)), (rO.of E529 K532 (by have := yR.2 6 _ _ rfl 44; omega)), ⟨E529.2.1, fun w9 => by skip; have := E529.w2 w9; omega⟩, (fun w9 => by have u91 : rv M477 o0 19 = 0 := (by omega); have := f487.o u91; have := f488.o u91; have u92 : rv M423 o0 19 = 0 := (by omega); have := f437.o u92; have := f438.o u92; have := f434.o u92; have u93 : rv M38 o0 19 = 0 := (by omega); have := f54.o u93; have := f55.o u93; omega), (by first | (have hlo : p_lo (p_wi pb pn ps.2.2) = 1 := (by unfold p_lo; split <;> omega); have hhi : p_hi (p_wi pb pn ps.2.2) = 360 := (by unfold p_hi; (repeat' split) <;> omega); rw [show p_rul pb pn pa pc9 ps = s499 from (by unfold p_rul; unfold p_bar; rw [hlo, hhi]; (try simp only [e65, e449, e500]); ((repeat' (first | (with_reducible rfl) | split)) <;> (first | ((try simp only [e65, e449, e500]); done) | ((try simp only [e65, e449, e500]); first | exact p_sg_Z _ (by omega) | exact (p_sg_Z _ (by omega)).symm | omega) | (exfalso; omega))))]; exact Z9534) | (exfalso; have := R514.1 15 _ _ rfl; have := R514.1 16 _ _ rfl; have := R514.1 19 _ _ rfl; omega)), (fun w9 => by have u91 : rv M477 o0 19 = 0 := (by omega); have := f487.o u91; have := f488.o u91; have u92 : rv M423 o0 19 = 0 := (by omega); have := f437.o u92; have := f438.o u92; have := f434.o u92; have u93 : rv M38 o0 19 = 0 := (by omega); have := f54.o u93; have := f55.o u93; omega)⟩
            · refine mv_bipush (v := 50) d_TrustDeskModel_readRule_198 (by decide) ?_
              refine mv_goto (tgt := 247) d_TrustDeskModel_readRule_200 (by decide) ?_
              obtain ⟨_, b541, -⟩ := I42.1 _ _ t53
              have : (1 : Int32).toInt = 1 := by decide
              have : (50 : Int32).toInt = 50 := by decide
              refine mv_callV (kc' := 0) (ks' := 0) (As := [.int 1, .int 50]) (st9 := [.int 50, .int 1, .ref o0, .int v44, .ref a190]) d_TrustDeskModel_readRule_247 lV_TrustDeskModel_317 b541 rfl (tc_TrustDeskModel_number_x (d := (d + 3)) (x9 := x9) (o0 := o0) (x1 := 1) (x2 := 50) t53 R45 E60.1 (E60.s yS (by decide)) f52 I42.start) rfl (Nat.le_of_ble_eq_true rfl) (Nat.le_of_ble_eq_true rfl) (Nat.le_of_ble_eq_true rfl) (hst := rfl) (fun b535r M536 n537 b535 => ?_)
              obtain ⟨T538, J539, v542, rfl, R543, f544, f545, f546, f547⟩ := b535
              have I540 := I42.call J539 (tm_sub (by decide)) (Or.inl rfl)
              have t548 := J539.up t53
              have t549 := J539.up t_a190
              have := f544.2.1
              have f550 := Im.i f544.w.2
              have f551 := Im.i f544.w2
              replace f547 := Im.i f547
              have z552 := (rv_c I42 J539 (I42.up h_o0) (k := 22) rfl).trans z57
              have z553 := (rv_c I42 J539 (I42.up h_o0) (k := 24) rfl).trans z58
              have z554 := (ra_call I42 J539 (I42.up h_o0) (k := 5) rfl rfl rfl 44).trans z59
              have z555 := (ra_call I42 J539 (I42.up h_o0) (k := 6) rfl rfl rfl 44)
              have z556 := (ra_call I42 J539 (I42.up h_o0) (k := 7) rfl rfl rfl ((880 + ra M0 o0 6 44).toNat))
              have z557 := (ra_call I42 J539 (I42.up h_o0) (k := 10) rfl rfl rfl ((880 + ra M0 o0 6 44).toNat))
              have E558 : rE M0 M536 o0 0 2 := E60.trans f544 (by decide) (yR.2 5 _ _ rfl 44).1 (by decide) (by decide)
              have K559 : rK M0 M536 o0 ((880 + ra M0 o0 6 44).toNat) := K62.same (sA_c I42 J539 (I42.up h_o0) (by decide +kernel))
              have K560 : nN M536 o0 := K63.same (sA_c I42 J539 (I42.up h_o0) (by decide +kernel)) (sF_c I42 J539 (I42.up h_o0) (by decide +kernel))
              rw [show (1 : Int32).toInt = 1 from by decide] at f546
              rw [show (50 : Int32).toInt = 50 from by decide] at f546
              obtain ⟨s561, e562⟩ : ∃ s9 : p_S, p_num pb pn 1 50 s64 = s9 := ⟨_, rfl⟩
              rw [e562] at f546
              have := f546.w
              clear z57 z58 z59
              have q563 := J539.keep t53 (by decide) q66
              have t564 := J539.up t67
              have q565 := J539.keep t53 (by decide) q189
              refine tr_iastR (k := 8) I540 R543 (I540.up h_o0) q565 t549 (by decide) (by decide) (fun lo hi h => by cases h; have := R543.1 15 _ _ rfl; have := R543.1 16 _ _ rfl; have := R543.1 19 _ _ rfl; exact ⟨by show ((-1) : Int) ≤ v542.toInt; omega, by show v542.toInt ≤ (720 : Int); omega⟩) (Or.inl (by decide)) d_TrustDeskModel_readRule_250 (vp_in_iff.mpr (by have := R543.1 15 _ _ rfl; have := R543.1 16 _ _ rfl; have := R543.1 19 _ _ rfl; omega)) (fun M566 I567 K568 R569 E570 A571 V572 => ?_)
              have z573 := (V572 15)
              have z574 := (V572 16)
              have z575 := (V572 17)
              have z576 := (V572 19)
              have z577 := (V572 22).trans z552
              have z578 := (V572 24).trans z553
              have z579 := (A571 5 (by decide) rfl 44).trans z554
              have z580 := (A571 6 (by decide) rfl 44).trans z555
              have z581 := (A571 7 (by decide) rfl ((880 + ra M0 o0 6 44).toNat)).trans z556
              have z582 := (A571 10 (by decide) rfl ((880 + ra M0 o0 6 44).toNat)).trans z557
              have E583 : rE M0 M566 o0 0 2 := E558.same (fun k _ _ => V572 k) (fun k h1 h2 => A571 k (by omega) (by rcases (show k = 4 ∨ k = 5 by omega) with rfl | rfl <;> rfl))
              have h584 : (880 + ra M0 o0 6 44).toNat = v44.toNatClampNeg := by have := mz_nat9 (i := v44) (by have := R543.1 15 _ _ rfl; have := R543.1 16 _ _ rfl; have := R543.1 19 _ _ rfl; omega); have := R543.1 15 _ _ rfl; have := R543.1 16 _ _ rfl; have := R543.1 19 _ _ rfl; omega
              have z585 : ra M566 o0 8 ((880 + ra M0 o0 6 44).toNat) = v542.toInt := (E570 _).trans (if_pos h584)
              have K586 : rK M0 M566 o0 ((880 + ra M0 o0 6 44).toNat) := K559.st A571 E570 (by have := mz_nat9 (i := v44) (by have := R543.1 15 _ _ rfl; have := R543.1 16 _ _ rfl; have := R543.1 19 _ _ rfl; omega); have := R543.1 15 _ _ rfl; have := R543.1 16 _ _ rfl; have := R543.1 19 _ _ rfl; omega)
              have K587 : nN M566 o0 := K560.same (sA_a A571 (by decide +kernel)) (sF_a V572)
              have Z9588 : pO M566 o0 pb pn pa s561 := f546.same (fun k _ _ => V572 k) (V572 23) (A571 13 (by decide) rfl)
              clear z552 z553 z554 z555 z556 z557
              refine mv_aload_n d_TrustDeskModel_readRule_251 rfl rfl ?_
              refine mv_bipush (v := 59) d_TrustDeskModel_readRule_252 (by decide) ?_
              obtain ⟨_, b595, -⟩ := I567.1 _ _ t548
              have : (59 : Int32).toInt = 59 := by decide
              refine mv_callV (kc' := 0) (ks' := 0) (As := [.int 59]) (st9 := [.int 59, .ref o0]) d_TrustDeskModel_readRule_254 lV_TrustDeskModel_291 b595 rfl (tc_TrustDeskModel_wantSign_x (d := (d + 3)) (x9 := x9) (o0 := o0) (x1 := 59) t548 R569 E583.1 (E583.s yS (by decide)) (by decide) Z9588 I567.start) rfl (Nat.le_of_ble_eq_true rfl) (Nat.le_of_ble_eq_true rfl) (Nat.le_of_ble_eq_true rfl) (hst := rfl) (fun b589r M590 n591 b589 => ?_)
              obtain ⟨T592, J593, rfl, R596, f597, f598⟩ := b589
              have I594 := I567.call J593 (tm_sub (by decide)) (Or.inl rfl)
              have t599 := J593.up t548
              have := f597.2.1
              have f600 := Im.i f597.w.2
              have f601 := Im.i f597.w2
              have z602 := (rv_c I567 J593 (I567.up h_o0) (k := 22) rfl).trans z577
              have z603 := (rv_c I567 J593 (I567.up h_o0) (k := 24) rfl).trans z578
              have z604 := (ra_call I567 J593 (I567.up h_o0) (k := 5) rfl rfl rfl 44).trans z579
              have z605 := (ra_call I567 J593 (I567.up h_o0) (k := 6) rfl rfl rfl 44).trans z580
              have z606 := (ra_call I567 J593 (I567.up h_o0) (k := 7) rfl rfl rfl ((880 + ra M0 o0 6 44).toNat)).trans z581
              have z607 := (ra_call I567 J593 (I567.up h_o0) (k := 10) rfl rfl rfl ((880 + ra M0 o0 6 44).toNat)).trans z582
              have z608 := (ra_call I567 J593 (I567.up h_o0) (k := 8) rfl rfl rfl ((880 + ra M0 o0 6 44).toNat)).trans z585
              have E609 : rE M0 M590 o0 0 3 := E583.trans f597 (by decide) (yR.2 5 _ _ rfl 44).1 (by decide) (by decide)
              have K610 : rK M0 M590 o0 ((880 + ra M0 o0 6 44).toNat) := K586.same (sA_c I567 J593 (I567.up h_o0) (by decide +kernel))
              have K611 : nN M590 o0 := K587.same (sA_c I567 J593 (I567.up h_o0) (by decide +kernel)) (sF_c I567 J593 (I567.up h_o0) (by decide +kernel))
              rw [show (59 : Int32).toInt = 59 from by decide] at f598
              obtain ⟨s612, e613⟩ : ∃ s9 : p_S, p_sg pb pn 59 s561 = s9 := ⟨_, rfl⟩
              rw [e613] at f598
              have := f598.w
              clear z577 z578 z579 z580 z581 z582 z585
              have q614 := J593.keep t548 (by decide) (K568 _ 13 6 _ q563)
              have t615 := J593.up t564
              have q616 := J593.keep t548 (by decide) (K568 _ 13 8 _ q565)
              have t617 := J593.up t549
              refine mv_aload_n d_TrustDeskModel_readRule_257 rfl rfl ?_
              obtain ⟨a619, q618, t_a619⟩ := tm_atR I594 t599 (k := 12) rfl
              refine tr_getK q618 d_TrustDeskModel_readRule_258 f_TrustDeskModel_41_13 ?_
              refine mv_iload_n d_TrustDeskModel_readRule_261 rfl rfl ?_
              refine mv_aload_n d_TrustDeskModel_readRule_262 rfl rfl ?_
              obtain ⟨a621, q620, t_a621⟩ := tm_atR I594 t599 (k := 5) rfl
              refine tr_getK q620 d_TrustDeskModel_readRule_263 f_TrustDeskModel_20_13 ?_
              refine mv_bipush (v := 44) d_TrustDeskModel_readRule_266 (by decide) ?_
              refine tr_ialdR (o := o0) (k := 5) I594 q620 t_a621 (by decide) d_TrustDeskModel_readRule_268 (by unfold vp_in; decide) (fun v622 e623 => ?_)
              have := R596.a (k := 5) rfl (44 : Int32).toNatClampNeg
              have : v622.toInt = ra M590 o0 5 44 := e623
              have : v622.toInt = _ := Eq.trans e623 z604
              refine tr_iastR (k := 12) I594 R596 (I594.up h_o0) q618 t_a619 (by decide) (by decide) (fun lo hi h => by cases h; have := R596.1 15 _ _ rfl; have := R596.1 16 _ _ rfl; have := R596.1 19 _ _ rfl; exact ⟨by show (0 : Int) ≤ v622.toInt; omega, by show v622.toInt ≤ (400 : Int); omega⟩) (Or.inl (by decide)) d_TrustDeskModel_readRule_269 (vp_in_iff.mpr (by have := R596.1 15 _ _ rfl; have := R596.1 16 _ _ rfl; have := R596.1 19 _ _ rfl; omega)) (fun M624 I625 K626 R627 E628 A629 V630 => ?_)
              have z631 := (V630 15)
              have z632 := (V630 16)
              have z633 := (V630 17)
              have z634 := (V630 19)
              have z635 := (V630 22).trans z602
              have z636 := (V630 24).trans z603
              have z637 := (A629 5 (by decide) rfl 44).trans z604
              have z638 := (A629 6 (by decide) rfl 44).trans z605
              have z639 := (A629 7 (by decide) rfl ((880 + ra M0 o0 6 44).toNat)).trans z606
              have z640 := (A629 10 (by decide) rfl ((880 + ra M0 o0 6 44).toNat)).trans z607
              have z641 := (A629 8 (by decide) rfl ((880 + ra M0 o0 6 44).toNat)).trans z608
              have E642 : rE M0 M624 o0 0 3 := E609.same (fun k _ _ => V630 k) (fun k h1 h2 => A629 k (by omega) (by rcases (show k = 4 ∨ k = 5 by omega) with rfl | rfl <;> rfl))
              have h643 : (880 + ra M0 o0 6 44).toNat = v44.toNatClampNeg := by have := mz_nat9 (i := v44) (by have := R596.1 15 _ _ rfl; have := R596.1 16 _ _ rfl; have := R596.1 19 _ _ rfl; omega); have := R596.1 15 _ _ rfl; have := R596.1 16 _ _ rfl; have := R596.1 19 _ _ rfl; omega
              have z644 : ra M624 o0 12 ((880 + ra M0 o0 6 44).toNat) = v622.toInt := (E628 _).trans (if_pos h643)
              have K645 : rK M0 M624 o0 ((880 + ra M0 o0 6 44).toNat) := K610.st A629 E628 (by have := mz_nat9 (i := v44) (by have := R596.1 15 _ _ rfl; have := R596.1 16 _ _ rfl; have := R596.1 19 _ _ rfl; omega); have := R596.1 15 _ _ rfl; have := R596.1 16 _ _ rfl; have := R596.1 19 _ _ rfl; omega)
              have K646 : nN M624 o0 := K611.same (sA_a A629 (by decide +kernel)) (sF_a V630)
              have Z9647 : pO M624 o0 pb pn pa s612 := f598.same (fun k _ _ => V630 k) (V630 23) (A629 13 (by decide) rfl)
              clear z602 z603 z604 z605 z606 z607 z608
              exact mv_vret d_TrustDeskModel_readRule_270 rfl ⟨_, I625, rfl, R627, (rW.of E642.1 (E642.s yS (by decide)) (fun w9 => by have u91 : rv M590 o0 19 = 0 := (by omega); have := f600.o u91; have := f601.o u91; have u92 : rv M536 o0 19 = 0 := (by omega); have := f550.o u92; have := f551.o u92; have := f547.o u92; have u93 : rv M38 o0 19 = 0 := (by omega); have := f54.o u93; have := f55.o u93; exact rG.step yG yR E642 w9 K645 (by have := yR.2 6 _ _ rfl 44; omega) (by have := R627.1 15 _ _ rfl; have := R627.1 16 _ _ rfl; have := R627.1 19 _ _ rfl; omega) (by have := R627.1 15 _ _ rfl; have := R627.1 16 _ _ rfl; have := R627.1 19 _ _ rfl; omega) (fun h9 => by exfalso; have := R627.1 15 _ _ rfl; have := R627.1 16 _ _ rfl; have := R627.1 19 _ _ rfl; omega) (fun h9 => (by have := R627.1 15 _ _ rfl; have := R627.1 16 _ _ rfl; have := R627.1 19 _ _ rfl; omega)) (by have := R627.1 15 _ _ rfl; have := R627.1 16 _ _ rfl; have := R627.1 19 _ _ rfl; omega) K646)), (rO.of E642 K645 (by have := yR.2 6 _ _ rfl 44; omega)), ⟨E642.2.1, fun w9 => by skip; have := E642.w2 w9; omega⟩, (fun w9 => by have u91 : rv M590 o0 19 = 0 := (by omega); have := f600.o u91; have := f601.o u91; have u92 : rv M536 o0 19 = 0 := (by omega); have := f550.o u92; have := f551.o u92; have := f547.o u92; have u93 : rv M38 o0 19 = 0 := (by omega); have := f54.o u93; have := f55.o u93; omega), (by first | (have hlo : p_lo (p_wi pb pn ps.2.2) = 1 := (by unfold p_lo; split <;> omega); have hhi : p_hi (p_wi pb pn ps.2.2) = 50 := (by unfold p_hi; (repeat' split) <;> omega); rw [show p_rul pb pn pa pc9 ps = s612 from (by unfold p_rul; unfold p_bar; rw [hlo, hhi]; (try simp only [e65, e562, e613]); ((repeat' (first | (with_reducible rfl) | split)) <;> (first | ((try simp only [e65, e562, e613]); done) | ((try simp only [e65, e562, e613]); first | exact p_sg_Z _ (by omega) | exact (p_sg_Z _ (by omega)).symm | omega) | (exfalso; omega))))]; exact Z9647) | (exfalso; have := R627.1 15 _ _ rfl; have := R627.1 16 _ _ rfl; have := R627.1 19 _ _ rfl; omega)), (fun w9 => by have u91 : rv M590 o0 19 = 0 := (by omega); have := f600.o u91; have := f601.o u91; have u92 : rv M536 o0 19 = 0 := (by omega); have := f550.o u92; have := f551.o u92; have := f547.o u92; have u93 : rv M38 o0 19 = 0 := (by omega); have := f54.o u93; have := f55.o u93; omega)⟩
          · refine mv_iconst (v := 0) d_TrustDeskModel_readRule_181 (by decide) ?_
            refine mv_goto (tgt := 186) d_TrustDeskModel_readRule_182 (by decide) ?_
            refine mv_istore_n (lv' := [(3, .int 0), (2, .int v44), (1, .int v10), (0, .ref o0)]) d_TrustDeskModel_readRule_186 rfl (by decide) rfl ?_
            refine mv_aload_n d_TrustDeskModel_readRule_187 rfl rfl ?_
            obtain ⟨a649, q648, t_a649⟩ := tm_atR I42 t53 (k := 8) rfl
            refine tr_getK q648 d_TrustDeskModel_readRule_188 f_TrustDeskModel_29_13 ?_
            refine mv_iload_n d_TrustDeskModel_readRule_191 rfl rfl ?_
            refine mv_aload_n d_TrustDeskModel_readRule_192 rfl rfl ?_
            refine mv_iload_n d_TrustDeskModel_readRule_193 rfl rfl ?_
            refine mv_iload_n d_TrustDeskModel_readRule_194 rfl rfl ?_
            have := mz_hi v10
            refine mv_if_neZ (tgt := 203) (a := v10.toInt) d_TrustDeskModel_readRule_195 (by decide) rfl (fun b650 => ?_) (fun b650 => absurd b650 (by omega))
            refine mv_iload_n d_TrustDeskModel_readRule_203 rfl rfl ?_
            refine mv_iconst (v := 1) d_TrustDeskModel_readRule_204 (by decide) ?_
            have := mz_hi v10
            refine mv_icmp_neZ (tgt := 213) (a := v10.toInt) (b := 1) d_TrustDeskModel_readRule_205 (by decide) rfl (by decide) (fun b651 => ?_) (fun b651 => absurd b651 (by omega))
            refine mv_iload_n d_TrustDeskModel_readRule_213 rfl rfl ?_
            refine mv_iconst (v := 2) d_TrustDeskModel_readRule_214 (by decide) ?_
            have := mz_hi v10
            refine mv_icmp_neZ (tgt := 224) (a := v10.toInt) (b := 2) d_TrustDeskModel_readRule_215 (by decide) rfl (by decide) (fun b652 => ?_) (fun b652 => absurd b652 (by omega))
            refine mv_iload_n d_TrustDeskModel_readRule_224 rfl rfl ?_
            refine mv_iconst (v := 3) d_TrustDeskModel_readRule_225 (by decide) ?_
            have := mz_hi v10
            refine mv_icmp_neZ (tgt := 235) (a := v10.toInt) (b := 3) d_TrustDeskModel_readRule_226 (by decide) rfl (by decide) (fun b653 => ?_) (fun b653 => absurd b653 (by omega))
            refine mv_iload_n d_TrustDeskModel_readRule_235 rfl rfl ?_
            refine mv_iconst (v := 4) d_TrustDeskModel_readRule_236 (by decide) ?_
            have := mz_hi v10
            refine mv_icmp_neZ (tgt := 245) (a := v10.toInt) (b := 4) d_TrustDeskModel_readRule_237 (by decide) rfl (by decide) (fun b654 => absurd b654 (by omega)) (fun b654 => ?_)
            refine mv_bipush (v := 20) d_TrustDeskModel_readRule_240 (by decide) ?_
            refine mv_goto (tgt := 247) d_TrustDeskModel_readRule_242 (by decide) ?_
            obtain ⟨_, b661, -⟩ := I42.1 _ _ t53
            have : (0 : Int32).toInt = 0 := by decide
            have : (20 : Int32).toInt = 20 := by decide
            refine mv_callV (kc' := 0) (ks' := 0) (As := [.int 0, .int 20]) (st9 := [.int 20, .int 0, .ref o0, .int v44, .ref a649]) d_TrustDeskModel_readRule_247 lV_TrustDeskModel_317 b661 rfl (tc_TrustDeskModel_number_x (d := (d + 3)) (x9 := x9) (o0 := o0) (x1 := 0) (x2 := 20) t53 R45 E60.1 (E60.s yS (by decide)) f52 I42.start) rfl (Nat.le_of_ble_eq_true rfl) (Nat.le_of_ble_eq_true rfl) (Nat.le_of_ble_eq_true rfl) (hst := rfl) (fun b655r M656 n657 b655 => ?_)
            obtain ⟨T658, J659, v662, rfl, R663, f664, f665, f666, f667⟩ := b655
            have I660 := I42.call J659 (tm_sub (by decide)) (Or.inl rfl)
            have t668 := J659.up t53
            have t669 := J659.up t_a649
            have := f664.2.1
            have f670 := Im.i f664.w.2
            have f671 := Im.i f664.w2
            replace f667 := Im.i f667
            have z672 := (rv_c I42 J659 (I42.up h_o0) (k := 22) rfl).trans z57
            have z673 := (rv_c I42 J659 (I42.up h_o0) (k := 24) rfl).trans z58
            have z674 := (ra_call I42 J659 (I42.up h_o0) (k := 5) rfl rfl rfl 44).trans z59
            have z675 := (ra_call I42 J659 (I42.up h_o0) (k := 6) rfl rfl rfl 44)
            have z676 := (ra_call I42 J659 (I42.up h_o0) (k := 7) rfl rfl rfl ((880 + ra M0 o0 6 44).toNat))
            have z677 := (ra_call I42 J659 (I42.up h_o0) (k := 10) rfl rfl rfl ((880 + ra M0 o0 6 44).toNat))
            have E678 : rE M0 M656 o0 0 2 := E60.trans f664 (by decide) (yR.2 5 _ _ rfl 44).1 (by decide) (by decide)
            have K679 : rK M0 M656 o0 ((880 + ra M0 o0 6 44).toNat) := K62.same (sA_c I42 J659 (I42.up h_o0) (by decide +kernel))
            have K680 : nN M656 o0 := K63.same (sA_c I42 J659 (I42.up h_o0) (by decide +kernel)) (sF_c I42 J659 (I42.up h_o0) (by decide +kernel))
            rw [show (0 : Int32).toInt = 0 from by decide] at f666
            rw [show (20 : Int32).toInt = 20 from by decide] at f666
            obtain ⟨s681, e682⟩ : ∃ s9 : p_S, p_num pb pn 0 20 s64 = s9 := ⟨_, rfl⟩
            rw [e682] at f666
            have := f666.w
            clear z57 z58 z59
            have q683 := J659.keep t53 (by decide) q66
            have t684 := J659.up t67
            have q685 := J659.keep t53 (by decide) q648
            refine tr_iastR (k := 8) I660 R663 (I660.up h_o0) q685 t669 (by decide) (by decide) (fun lo hi h => by cases h; have := R663.1 15 _ _ rfl; have := R663.1 16 _ _ rfl; have := R663.1 19 _ _ rfl; exact ⟨by show ((-1) : Int) ≤ v662.toInt; omega, by show v662.toInt ≤ (720 : Int); omega⟩) (Or.inl (by decide)) d_TrustDeskModel_readRule_250 (vp_in_iff.mpr (by have := R663.1 15 _ _ rfl; have := R663.1 16 _ _ rfl; have := R663.1 19 _ _ rfl; omega)) (fun M686 I687 K688 R689 E690 A691 V692 => ?_)
            have z693 := (V692 15)
            have z694 := (V692 16)
            have z695 := (V692 17)
            have z696 := (V692 19)
            have z697 := (V692 22).trans z672
            have z698 := (V692 24).trans z673
            have z699 := (A691 5 (by decide) rfl 44).trans z674
            have z700 := (A691 6 (by decide) rfl 44).trans z675
            have z701 := (A691 7 (by decide) rfl ((880 + ra M0 o0 6 44).toNat)).trans z676
            have z702 := (A691 10 (by decide) rfl ((880 + ra M0 o0 6 44).toNat)).trans z677
            have E703 : rE M0 M686 o0 0 2 := E678.same (fun k _ _ => V692 k) (fun k h1 h2 => A691 k (by omega) (by rcases (show k = 4 ∨ k = 5 by omega) with rfl | rfl <;> rfl))
            have h704 : (880 + ra M0 o0 6 44).toNat = v44.toNatClampNeg := by have := mz_nat9 (i := v44) (by have := R663.1 15 _ _ rfl; have := R663.1 16 _ _ rfl; have := R663.1 19 _ _ rfl; omega); have := R663.1 15 _ _ rfl; have := R663.1 16 _ _ rfl; have := R663.1 19 _ _ rfl; omega
            have z705 : ra M686 o0 8 ((880 + ra M0 o0 6 44).toNat) = v662.toInt := (E690 _).trans (if_pos h704)
            have K706 : rK M0 M686 o0 ((880 + ra M0 o0 6 44).toNat) := K679.st A691 E690 (by have := mz_nat9 (i := v44) (by have := R663.1 15 _ _ rfl; have := R663.1 16 _ _ rfl; have := R663.1 19 _ _ rfl; omega); have := R663.1 15 _ _ rfl; have := R663.1 16 _ _ rfl; have := R663.1 19 _ _ rfl; omega)
            have K707 : nN M686 o0 := K680.same (sA_a A691 (by decide +kernel)) (sF_a V692)
            have Z9708 : pO M686 o0 pb pn pa s681 := f666.same (fun k _ _ => V692 k) (V692 23) (A691 13 (by decide) rfl)
            clear z672 z673 z674 z675 z676 z677
            refine mv_aload_n d_TrustDeskModel_readRule_251 rfl rfl ?_
            refine mv_bipush (v := 59) d_TrustDeskModel_readRule_252 (by decide) ?_
            obtain ⟨_, b715, -⟩ := I687.1 _ _ t668
            have : (59 : Int32).toInt = 59 := by decide
            refine mv_callV (kc' := 0) (ks' := 0) (As := [.int 59]) (st9 := [.int 59, .ref o0]) d_TrustDeskModel_readRule_254 lV_TrustDeskModel_291 b715 rfl (tc_TrustDeskModel_wantSign_x (d := (d + 3)) (x9 := x9) (o0 := o0) (x1 := 59) t668 R689 E703.1 (E703.s yS (by decide)) (by decide) Z9708 I687.start) rfl (Nat.le_of_ble_eq_true rfl) (Nat.le_of_ble_eq_true rfl) (Nat.le_of_ble_eq_true rfl) (hst := rfl) (fun b709r M710 n711 b709 => ?_)
            obtain ⟨T712, J713, rfl, R716, f717, f718⟩ := b709
            have I714 := I687.call J713 (tm_sub (by decide)) (Or.inl rfl)
            have t719 := J713.up t668
            have := f717.2.1
            have f720 := Im.i f717.w.2
            have f721 := Im.i f717.w2
            have z722 := (rv_c I687 J713 (I687.up h_o0) (k := 22) rfl).trans z697
            have z723 := (rv_c I687 J713 (I687.up h_o0) (k := 24) rfl).trans z698
            have z724 := (ra_call I687 J713 (I687.up h_o0) (k := 5) rfl rfl rfl 44).trans z699
            have z725 := (ra_call I687 J713 (I687.up h_o0) (k := 6) rfl rfl rfl 44).trans z700
            have z726 := (ra_call I687 J713 (I687.up h_o0) (k := 7) rfl rfl rfl ((880 + ra M0 o0 6 44).toNat)).trans z701
            have z727 := (ra_call I687 J713 (I687.up h_o0) (k := 10) rfl rfl rfl ((880 + ra M0 o0 6 44).toNat)).trans z702
            have z728 := (ra_call I687 J713 (I687.up h_o0) (k := 8) rfl rfl rfl ((880 + ra M0 o0 6 44).toNat)).trans z705
            have E729 : rE M0 M710 o0 0 3 := E703.trans f717 (by decide) (yR.2 5 _ _ rfl 44).1 (by decide) (by decide)
            have K730 : rK M0 M710 o0 ((880 + ra M0 o0 6 44).toNat) := K706.same (sA_c I687 J713 (I687.up h_o0) (by decide +kernel))
            have K731 : nN M710 o0 := K707.same (sA_c I687 J713 (I687.up h_o0) (by decide +kernel)) (sF_c I687 J713 (I687.up h_o0) (by decide +kernel))
            rw [show (59 : Int32).toInt = 59 from by decide] at f718
            obtain ⟨s732, e733⟩ : ∃ s9 : p_S, p_sg pb pn 59 s681 = s9 := ⟨_, rfl⟩
            rw [e733] at f718
            have := f718.w
            clear z697 z698 z699 z700 z701 z702 z705
            have q734 := J713.keep t668 (by decide) (K688 _ 13 6 _ q683)
            have t735 := J713.up t684
            have q736 := J713.keep t668 (by decide) (K688 _ 13 8 _ q685)
            have t737 := J713.up t669
            refine mv_aload_n d_TrustDeskModel_readRule_257 rfl rfl ?_
            obtain ⟨a739, q738, t_a739⟩ := tm_atR I714 t719 (k := 12) rfl
            refine tr_getK q738 d_TrustDeskModel_readRule_258 f_TrustDeskModel_41_13 ?_
            refine mv_iload_n d_TrustDeskModel_readRule_261 rfl rfl ?_
            refine mv_aload_n d_TrustDeskModel_readRule_262 rfl rfl ?_
            obtain ⟨a741, q740, t_a741⟩ := tm_atR I714 t719 (k := 5) rfl
            refine tr_getK q740 d_TrustDeskModel_readRule_263 f_TrustDeskModel_20_13 ?_
            refine mv_bipush (v := 44) d_TrustDeskModel_readRule_266 (by decide) ?_
            refine tr_ialdR (o := o0) (k := 5) I714 q740 t_a741 (by decide) d_TrustDeskModel_readRule_268 (by unfold vp_in; decide) (fun v742 e743 => ?_)
            have := R716.a (k := 5) rfl (44 : Int32).toNatClampNeg
            have : v742.toInt = ra M710 o0 5 44 := e743
            have : v742.toInt = _ := Eq.trans e743 z724
            refine tr_iastR (k := 12) I714 R716 (I714.up h_o0) q738 t_a739 (by decide) (by decide) (fun lo hi h => by cases h; have := R716.1 15 _ _ rfl; have := R716.1 16 _ _ rfl; have := R716.1 19 _ _ rfl; exact ⟨by show (0 : Int) ≤ v742.toInt; omega, by show v742.toInt ≤ (400 : Int); omega⟩) (Or.inl (by decide)) d_TrustDeskModel_readRule_269 (vp_in_iff.mpr (by have := R716.1 15 _ _ rfl; have := R716.1 16 _ _ rfl; have := R716.1 19 _ _ rfl; omega)) (fun M744 I745 K746 R747 E748 A749 V750 => ?_)
            have z751 := (V750 15)
            have z752 := (V750 16)
            have z753 := (V750 17)
            have z754 := (V750 19)
            have z755 := (V750 22).trans z722
            have z756 := (V750 24).trans z723
            have z757 := (A749 5 (by decide) rfl 44).trans z724
            have z758 := (A749 6 (by decide) rfl 44).trans z725
            have z759 := (A749 7 (by decide) rfl ((880 + ra M0 o0 6 44).toNat)).trans z726
            have z760 := (A749 10 (by decide) rfl ((880 + ra M0 o0 6 44).toNat)).trans z727
            have z761 := (A749 8 (by decide) rfl ((880 + ra M0 o0 6 44).toNat)).trans z728
            have E762 : rE M0 M744 o0 0 3 := E729.same (fun k _ _ => V750 k) (fun k h1 h2 => A749 k (by omega) (by rcases (show k = 4 ∨ k = 5 by omega) with rfl | rfl <;> rfl))
            have h763 : (880 + ra M0 o0 6 44).toNat = v44.toNatClampNeg := by have := mz_nat9 (i := v44) (by have := R716.1 15 _ _ rfl; have := R716.1 16 _ _ rfl; have := R716.1 19 _ _ rfl; omega); have := R716.1 15 _ _ rfl; have := R716.1 16 _ _ rfl; have := R716.1 19 _ _ rfl; omega
            have z764 : ra M744 o0 12 ((880 + ra M0 o0 6 44).toNat) = v742.toInt := (E748 _).trans (if_pos h763)
            have K765 : rK M0 M744 o0 ((880 + ra M0 o0 6 44).toNat) := K730.st A749 E748 (by have := mz_nat9 (i := v44) (by have := R716.1 15 _ _ rfl; have := R716.1 16 _ _ rfl; have := R716.1 19 _ _ rfl; omega); have := R716.1 15 _ _ rfl; have := R716.1 16 _ _ rfl; have := R716.1 19 _ _ rfl; omega)
            have K766 : nN M744 o0 := K731.same (sA_a A749 (by decide +kernel)) (sF_a V750)
            have Z9767 : pO M744 o0 pb pn pa s732 := f718.same (fun k _ _ => V750 k) (V750 23) (A749 13 (by decide) rfl)
            clear z722 z723 z724 z725 z726 z727 z728
            exact mv_vret d_TrustDeskModel_readRule_270 rfl ⟨_, I745, rfl, R747, (rW.of E762.1 (E762.s yS (by decide)) (fun w9 => by have u91 : rv M710 o0 19 = 0 := (by omega); have := f720.o u91; have := f721.o u91; have u92 : rv M656 o0 19 = 0 := (by omega); have := f670.o u92; have := f671.o u92; have := f667.o u92; have u93 : rv M38 o0 19 = 0 := (by omega); have := f54.o u93; have := f55.o u93; exact rG.step yG yR E762 w9 K765 (by have := yR.2 6 _ _ rfl 44; omega) (by have := R747.1 15 _ _ rfl; have := R747.1 16 _ _ rfl; have := R747.1 19 _ _ rfl; omega) (by have := R747.1 15 _ _ rfl; have := R747.1 16 _ _ rfl; have := R747.1 19 _ _ rfl; omega) (fun h9 => by exfalso; have := R747.1 15 _ _ rfl; have := R747.1 16 _ _ rfl; have := R747.1 19 _ _ rfl; omega) (fun h9 => (by have := R747.1 15 _ _ rfl; have := R747.1 16 _ _ rfl; have := R747.1 19 _ _ rfl; omega)) (by have := R747.1 15 _ _ rfl; have := R747.1 16 _ _ rfl; have := R747.1 19 _ _ rfl; omega) K766)), (rO.of E762 K765 (by have := yR.2 6 _ _ rfl 44; omega)), ⟨E762.2.1, fun w9 => by skip; have := E762.w2 w9; omega⟩, (fun w9 => by have u91 : rv M710 o0 19 = 0 := (by omega); have := f720.o u91; have := f721.o u91; have u92 : rv M656 o0 19 = 0 := (by omega); have := f670.o u92; have := f671.o u92; have := f667.o u92; have u93 : rv M38 o0 19 = 0 := (by omega); have := f54.o u93; have := f55.o u93; omega), (by first | (have hlo : p_lo (p_wi pb pn ps.2.2) = 0 := (by unfold p_lo; split <;> omega); have hhi : p_hi (p_wi pb pn ps.2.2) = 20 := (by unfold p_hi; (repeat' split) <;> omega); rw [show p_rul pb pn pa pc9 ps = s732 from (by unfold p_rul; unfold p_bar; rw [hlo, hhi]; (try simp only [e65, e682, e733]); ((repeat' (first | (with_reducible rfl) | split)) <;> (first | ((try simp only [e65, e682, e733]); done) | ((try simp only [e65, e682, e733]); first | exact p_sg_Z _ (by omega) | exact (p_sg_Z _ (by omega)).symm | omega) | (exfalso; omega))))]; exact Z9767) | (exfalso; have := R747.1 15 _ _ rfl; have := R747.1 16 _ _ rfl; have := R747.1 19 _ _ rfl; omega)), (fun w9 => by have u91 : rv M710 o0 19 = 0 := (by omega); have := f720.o u91; have := f721.o u91; have u92 : rv M656 o0 19 = 0 := (by omega); have := f670.o u92; have := f671.o u92; have := f667.o u92; have u93 : rv M38 o0 19 = 0 := (by omega); have := f54.o u93; have := f55.o u93; omega)⟩
    · refine mv_aload_n d_TrustDeskModel_readRule_30 rfl rfl ?_
      refine mv_iconst (v := 4) d_TrustDeskModel_readRule_31 (by decide) ?_
      obtain ⟨_, b774, -⟩ := I8.1 _ _ t14
      have : (4 : Int32).toInt = 4 := by decide
      refine mv_callV (kc' := 0) (ks' := 0) (As := [.int 4]) (st9 := [.int 4, .ref o0]) d_TrustDeskModel_readRule_32 lV_TrustDeskModel_240 b774 rfl (tc_TrustDeskModel_fails_x (d := (d + 5)) (x9 := x9) (o0 := o0) (x1 := 4) t14 R11 (by decide) Z926 I8.start) rfl (Nat.le_of_ble_eq_true rfl) (Nat.le_of_ble_eq_true rfl) (Nat.le_of_ble_eq_true rfl) (hst := rfl) (fun b768r M769 n770 b768 => ?_)
      obtain ⟨T771, J772, rfl, R775, f776, f777⟩ := b768
      have I773 := I8.call J772 (tm_sub (by decide)) (Or.inl rfl)
      have t778 := J772.up t14
      have z779 := (rv_c I8 J772 (I8.up h_o0) (k := 15) rfl).trans z15
      have z780 := (rv_c I8 J772 (I8.up h_o0) (k := 16) rfl).trans z16
      have z781 := (rv_c I8 J772 (I8.up h_o0) (k := 17) rfl).trans z17
      have z782 := (rv_c I8 J772 (I8.up h_o0) (k := 22) rfl).trans z19
      have z783 := (rv_c I8 J772 (I8.up h_o0) (k := 24) rfl).trans z20
      have z784 := (ra_call I8 J772 (I8.up h_o0) (k := 5) rfl rfl rfl 44).trans z21
      have z785 := (ra_call I8 J772 (I8.up h_o0) (k := 6) rfl rfl rfl 44).trans z22
      have E786 : rE M0 M769 o0 0 0 := E23.fails (rE_hv I8 J772 (I8.up h_o0) 15 18 (by decide)) (rE_ha I8 J772 (I8.up h_o0) (by decide)) f776 0 0
      have K787 : rK M0 M769 o0 ((880 + ra M0 o0 6 44).toNat) := K24.same (sA_c I8 J772 (I8.up h_o0) (by decide +kernel))
      have K788 : nN M769 o0 := K25.same (sA_c I8 J772 (I8.up h_o0) (by decide +kernel)) (sF_c I8 J772 (I8.up h_o0) (by decide +kernel))
      rw [show (4 : Int32).toInt = 4 from by decide] at f777
      obtain ⟨s789, e790⟩ : ∃ s9 : p_S, p_fl pb pn 4 ps = s9 := ⟨_, rfl⟩
      rw [e790] at f777
      have := f777.w
      clear z15 z16 z17 z19 z20 z21 z22
      have q791 := J772.keep t14 (by decide) q28
      have t792 := J772.up t_a29
      refine mv_aload_n d_TrustDeskModel_readRule_35 rfl rfl ?_
      obtain ⟨_, b793, -⟩ := I773.1 _ _ t778
      refine mv_callV (kc1 := 0) (ks1 := 0) (kc' := 0) (ks' := 0) (As := []) (st9 := [.ref o0]) d_TrustDeskModel_readRule_36 lV_TrustDeskModel_230 b793 rfl (mj_enter (by decide) (Nat.le_of_ble_eq_true rfl) ?_) rfl (Nat.le_of_ble_eq_true rfl) (Nat.le_of_ble_eq_true rfl) (Nat.le_of_ble_eq_true rfl) (hst := rfl) (fun _ _ _ h => h)
      refine mv_aload_n d_TrustDeskModel_isWell_0 rfl rfl ?_
      obtain ⟨v795, q794⟩ := tm_atI I773 t778 (k := 19) rfl
      refine tr_getK q794 d_TrustDeskModel_isWell_1 f_TrustDeskModel_224_13 ?_
      have := R775.f (k := 19) q794 rfl
      have := tm_rv q794
      refine mv_if_neZ (tgt := 11) (a := v795.toInt) d_TrustDeskModel_isWell_4 (by decide) rfl (fun b796 => ?_) (fun b796 => ?_)
      · refine mv_iconst (v := 0) d_TrustDeskModel_isWell_11 (by decide) ?_
        refine mv_iret d_TrustDeskModel_isWell_12 rfl (by decide) ?_
        refine mv_if_ne_f (tgt := 43) d_TrustDeskModel_readRule_39 (by decide) (by decide) ?_
        exact mv_vret d_TrustDeskModel_readRule_42 rfl ⟨_, I773, rfl, R775, (rW.of E786.1 (fun h9 => by exfalso; skip; have := R775.1 15 _ _ rfl; have := R775.1 16 _ _ rfl; have := R775.1 19 _ _ rfl; omega) (fun h9 => by exfalso; skip; have := R775.1 15 _ _ rfl; have := R775.1 16 _ _ rfl; have := R775.1 19 _ _ rfl; omega)), (rO.of E786 K787 (by have := yR.2 6 _ _ rfl 44; omega)), ⟨E786.2.1, fun w9 => by skip; have := E786.w2 w9; omega⟩, (fun w9 => by skip; omega), (by first | (rw [show p_rul pb pn pa pc9 ps = s789 from (by unfold p_rul; unfold p_bar; (try simp only [e790]); ((repeat' (first | (with_reducible rfl) | split)) <;> (first | ((try simp only [e790]); done) | ((try simp only [e790]); first | exact p_sg_Z _ (by omega) | exact (p_sg_Z _ (by omega)).symm | omega) | (exfalso; omega))))]; exact f777) | (exfalso; have := R775.1 15 _ _ rfl; have := R775.1 16 _ _ rfl; have := R775.1 19 _ _ rfl; omega)), (fun w9 => by skip; omega)⟩
      · exfalso
        have := R775.1 15 _ _ rfl; have := R775.1 16 _ _ rfl; have := R775.1 19 _ _ rfl; omega
  · refine mv_aload_n d_TrustDeskModel_readRule_10 rfl rfl ?_
    refine mv_iconst (v := 1) d_TrustDeskModel_readRule_11 (by decide) ?_
    obtain ⟨_, b803, -⟩ := I8.1 _ _ t14
    have : (1 : Int32).toInt = 1 := by decide
    refine mv_callV (kc' := 0) (ks' := 0) (As := [.int 1]) (st9 := [.int 1, .ref o0]) d_TrustDeskModel_readRule_12 lV_TrustDeskModel_240 b803 rfl (tc_TrustDeskModel_fails_x (d := (d + 5)) (x9 := x9) (o0 := o0) (x1 := 1) t14 R11 (by decide) Z926 I8.start) rfl (Nat.le_of_ble_eq_true rfl) (Nat.le_of_ble_eq_true rfl) (Nat.le_of_ble_eq_true rfl) (hst := rfl) (fun b797r M798 n799 b797 => ?_)
    obtain ⟨T800, J801, rfl, R804, f805, f806⟩ := b797
    have I802 := I8.call J801 (tm_sub (by decide)) (Or.inl rfl)
    have t807 := J801.up t14
    have z808 := (rv_c I8 J801 (I8.up h_o0) (k := 15) rfl).trans z15
    have z809 := (rv_c I8 J801 (I8.up h_o0) (k := 16) rfl).trans z16
    have z810 := (rv_c I8 J801 (I8.up h_o0) (k := 17) rfl).trans z17
    have z811 := (rv_c I8 J801 (I8.up h_o0) (k := 22) rfl).trans z19
    have z812 := (rv_c I8 J801 (I8.up h_o0) (k := 24) rfl).trans z20
    have z813 := (ra_call I8 J801 (I8.up h_o0) (k := 5) rfl rfl rfl 44).trans z21
    have z814 := (ra_call I8 J801 (I8.up h_o0) (k := 6) rfl rfl rfl 44).trans z22
    have E815 : rE M0 M798 o0 0 0 := E23.fails (rE_hv I8 J801 (I8.up h_o0) 15 18 (by decide)) (rE_ha I8 J801 (I8.up h_o0) (by decide)) f805 0 0
    have K816 : rK M0 M798 o0 ((880 + ra M0 o0 6 44).toNat) := K24.same (sA_c I8 J801 (I8.up h_o0) (by decide +kernel))
    have K817 : nN M798 o0 := K25.same (sA_c I8 J801 (I8.up h_o0) (by decide +kernel)) (sF_c I8 J801 (I8.up h_o0) (by decide +kernel))
    rw [show (1 : Int32).toInt = 1 from by decide] at f806
    obtain ⟨s818, e819⟩ : ∃ s9 : p_S, p_fl pb pn 1 ps = s9 := ⟨_, rfl⟩
    rw [e819] at f806
    have := f806.w
    clear z15 z16 z17 z19 z20 z21 z22
    refine mv_goto (tgt := 35) d_TrustDeskModel_readRule_15 (by decide) ?_
    refine mv_aload_n d_TrustDeskModel_readRule_35 rfl rfl ?_
    obtain ⟨_, b820, -⟩ := I802.1 _ _ t807
    refine mv_callV (kc1 := 0) (ks1 := 0) (kc' := 0) (ks' := 0) (As := []) (st9 := [.ref o0]) d_TrustDeskModel_readRule_36 lV_TrustDeskModel_230 b820 rfl (mj_enter (by decide) (Nat.le_of_ble_eq_true rfl) ?_) rfl (Nat.le_of_ble_eq_true rfl) (Nat.le_of_ble_eq_true rfl) (Nat.le_of_ble_eq_true rfl) (hst := rfl) (fun _ _ _ h => h)
    refine mv_aload_n d_TrustDeskModel_isWell_0 rfl rfl ?_
    obtain ⟨v822, q821⟩ := tm_atI I802 t807 (k := 19) rfl
    refine tr_getK q821 d_TrustDeskModel_isWell_1 f_TrustDeskModel_224_13 ?_
    have := R804.f (k := 19) q821 rfl
    have := tm_rv q821
    refine mv_if_neZ (tgt := 11) (a := v822.toInt) d_TrustDeskModel_isWell_4 (by decide) rfl (fun b823 => ?_) (fun b823 => ?_)
    · refine mv_iconst (v := 0) d_TrustDeskModel_isWell_11 (by decide) ?_
      refine mv_iret d_TrustDeskModel_isWell_12 rfl (by decide) ?_
      refine mv_if_ne_f (tgt := 43) d_TrustDeskModel_readRule_39 (by decide) (by decide) ?_
      exact mv_vret d_TrustDeskModel_readRule_42 rfl ⟨_, I802, rfl, R804, (rW.of E815.1 (fun h9 => by exfalso; skip; have := R804.1 15 _ _ rfl; have := R804.1 16 _ _ rfl; have := R804.1 19 _ _ rfl; omega) (fun h9 => by exfalso; skip; have := R804.1 15 _ _ rfl; have := R804.1 16 _ _ rfl; have := R804.1 19 _ _ rfl; omega)), (rO.of E815 K816 (by have := yR.2 6 _ _ rfl 44; omega)), ⟨E815.2.1, fun w9 => by skip; have := E815.w2 w9; omega⟩, (fun w9 => by skip; omega), (by first | (rw [show p_rul pb pn pa pc9 ps = s818 from (by unfold p_rul; unfold p_bar; (try simp only [e819]); ((repeat' (first | (with_reducible rfl) | split)) <;> (first | ((try simp only [e819]); done) | ((try simp only [e819]); first | exact p_sg_Z _ (by omega) | exact (p_sg_Z _ (by omega)).symm | omega) | (exfalso; omega))))]; exact f806) | (exfalso; have := R804.1 15 _ _ rfl; have := R804.1 16 _ _ rfl; have := R804.1 19 _ _ rfl; omega)), (fun w9 => by skip; omega)⟩
    · exfalso
      have := R804.1 15 _ _ rfl; have := R804.1 16 _ _ rfl; have := R804.1 19 _ _ rfl; omega
theorem d_TrustDeskModel_readRule_55 : decode kY_TrustDeskModel_readRule.2.1 55 = .ok (.aload_n 0, 1) := by decide +kernel
theorem d_TrustDeskModel_readRule_56 : decode kY_TrustDeskModel_readRule.2.1 56 = .ok (.getfield 29, 3) := by decide +kernel
theorem d_TrustDeskModel_readRule_59 : decode kY_TrustDeskModel_readRule.2.1 59 = .ok (.iload_n 2, 1) := by decide +kernel
theorem d_TrustDeskModel_readRule_60 : decode kY_TrustDeskModel_readRule.2.1 60 = .ok (.aload_n 0, 1) := by decide +kernel
theorem d_TrustDeskModel_readRule_61 : decode kY_TrustDeskModel_readRule.2.1 61 = .ok (.ldc_w 368, 3) := by decide +kernel
theorem d_TrustDeskModel_readRule_64 : decode kY_TrustDeskModel_readRule.2.1 64 = .ok (.invokevirtual 244, 3) := by decide +kernel
def w_TrustDeskModel_isWord_s1_21_x : List Nat := []
set_option maxHeartbeats 100000000 in theorem tc_TrustDeskModel_isWord_s1_21_x {g : mj_G} {l : Launch} {d : Nat} {T0 : tm_H} {M0 : mj_M} {n0 x9 : Nat} {o0 : Nat} (h_o0 : T0 o0 = some (0, 13, 0)) (yR : rI M0 o0) (I0 : tm_I tm_FT (tm_in w_TrustDeskModel_isWord_s1_21_x) x9 T0 M0 n0 T0 M0 n0) : mj_Met g l kY_TrustDeskModel_isWord (d + 4) [.ref o0, .ref 21] M0 n0 0 0 (tm_Q tm_FT (tm_in w_TrustDeskModel_isWord_s1_21_x) x9 T0 M0 n0 (fun r _ M => ∃ v : Int32, r = some (.int v) ∧ 0 ≤ v.toInt ∧ v.toInt ≤ 1 ∧ rI M o0 ∧ (v.toInt = 1 → rv M0 o0 17 = 3) ∧ (v.toInt = 1 → rv M0 o0 17 = 3 ∧ rv M0 o0 15 - rv M0 o0 16 = 4 ∧ ra M0 o0 13 ((rv M0 o0 16).toNat + 0) = 110 ∧ ra M0 o0 13 ((rv M0 o0 16).toNat + 1) = 101 ∧ ra M0 o0 13 ((rv M0 o0 16).toNat + 2) = 97 ∧ ra M0 o0 13 ((rv M0 o0 16).toNat + 3) = 114) ∧ (v.toInt = 0 → ¬ (rv M0 o0 17 = 3 ∧ rv M0 o0 15 - rv M0 o0 16 = 4 ∧ ra M0 o0 13 ((rv M0 o0 16).toNat + 0) = 110 ∧ ra M0 o0 13 ((rv M0 o0 16).toNat + 1) = 101 ∧ ra M0 o0 13 ((rv M0 o0 16).toNat + 2) = 97 ∧ ra M0 o0 13 ((rv M0 o0 16).toNat + 3) = 114)))) := by
  refine mj_enter (by decide) (Nat.le_of_ble_eq_true rfl) ?_
  refine mv_aload_n d_TrustDeskModel_isWord_0 rfl rfl ?_
  obtain ⟨v2, q1⟩ := tm_atI I0 h_o0 (k := 17) rfl
  refine tr_getK q1 d_TrustDeskModel_isWord_1 f_TrustDeskModel_198_13 ?_
  have := tm_rv q1
  refine mv_iconst (v := 3) d_TrustDeskModel_isWord_4 (by decide) ?_
  have := mz_hi v2
  refine mv_icmp_neZ (tgt := 24) (a := v2.toInt) (b := 3) d_TrustDeskModel_isWord_5 (by decide) rfl (by decide) (fun b3 => ?_) (fun b3 => ?_)
  · refine mv_iconst (v := 0) d_TrustDeskModel_isWord_24 (by decide) ?_
    exact mv_iret d_TrustDeskModel_isWord_25 rfl (by decide) ⟨_, I0, _, rfl, by decide, by decide, yR, (fun h => absurd h (by decide)), (fun h => absurd h (by decide)), (fun _ h => by obtain ⟨h1, h2, h3, h4, h5, h6⟩ := h; have := yR.1 15 _ _ rfl; have := yR.1 16 _ _ rfl; have := yR.1 19 _ _ rfl; omega)⟩
  · refine mv_aload_n d_TrustDeskModel_isWord_8 rfl rfl ?_
    obtain ⟨v5, q4⟩ := tm_atI I0 h_o0 (k := 15) rfl
    refine tr_getK q4 d_TrustDeskModel_isWord_9 f_TrustDeskModel_192_13 ?_
    have := yR.f (k := 15) q4 rfl
    have := tm_rv q4
    refine mv_aload_n d_TrustDeskModel_isWord_12 rfl rfl ?_
    obtain ⟨v7, q6⟩ := tm_atI I0 h_o0 (k := 16) rfl
    refine tr_getK q6 d_TrustDeskModel_isWord_13 f_TrustDeskModel_195_13 ?_
    have := yR.f (k := 16) q6 rfl
    have := tm_rv q6
    refine mv_isub d_TrustDeskModel_isWord_16 ?_
    refine mv_aload_n d_TrustDeskModel_isWord_17 rfl rfl ?_
    refine mv_slenK (i := 11) (v := 4) d_TrustDeskModel_isWord_18 lV_TrustDeskModel_214 (by decide) rfl (by decide) (Nat.le_of_ble_eq_true rfl) ?_
    have b8 : (v5 - v7 : Int32).toInt = (v5.toInt - v7.toInt) := mz_sub2 rfl rfl (by have := yR.1 15 _ _ rfl; have := yR.1 16 _ _ rfl; have := yR.1 19 _ _ rfl; omega) (by have := yR.1 15 _ _ rfl; have := yR.1 16 _ _ rfl; have := yR.1 19 _ _ rfl; omega)
    have := mz_hi (v5 - v7)
    refine mv_icmp_eqZ (tgt := 26) (a := (v5 - v7).toInt) (b := 4) d_TrustDeskModel_isWord_21 (by decide) rfl (by decide) (fun b9 => ?_) (fun b9 => ?_)
    · refine mv_iconst (v := 0) d_TrustDeskModel_isWord_26 (by decide) ?_
      refine mv_istore_n (lv' := [(2, .int 0), (0, .ref o0), (1, .ref 21)]) d_TrustDeskModel_isWord_27 rfl (by decide) rfl ?_
      refine mv_iload_n d_TrustDeskModel_isWord_28 rfl rfl ?_
      refine mv_aload_n d_TrustDeskModel_isWord_29 rfl rfl ?_
      refine mv_slenK (i := 11) (v := 4) d_TrustDeskModel_isWord_30 lV_TrustDeskModel_214 (by decide) rfl (by decide) (Nat.le_of_ble_eq_true rfl) ?_
      refine mv_icmp_ge_f (tgt := 63) d_TrustDeskModel_isWord_33 (by decide) (by decide) ?_
      refine mv_aload_n d_TrustDeskModel_isWord_36 rfl rfl ?_
      obtain ⟨a11, q10, t_a11⟩ := tm_atR I0 h_o0 (k := 13) rfl
      refine tr_getK q10 d_TrustDeskModel_isWord_37 f_TrustDeskModel_44_13 ?_
      refine mv_aload_n d_TrustDeskModel_isWord_40 rfl rfl ?_
      refine tr_getK (k := 16) q6 d_TrustDeskModel_isWord_41 f_TrustDeskModel_195_13 ?_
      refine mv_iload_n d_TrustDeskModel_isWord_44 rfl rfl ?_
      refine mv_iadd d_TrustDeskModel_isWord_45 ?_
      have b12 : (v7 + 0 : Int32).toInt = (v7.toInt + 0) := mz_add2 rfl (by decide) (by have := yR.1 15 _ _ rfl; have := yR.1 16 _ _ rfl; have := yR.1 19 _ _ rfl; omega) (by have := yR.1 15 _ _ rfl; have := yR.1 16 _ _ rfl; have := yR.1 19 _ _ rfl; omega)
      refine tr_baldR (o := o0) (k := 13) I0 q10 t_a11 (by decide) d_TrustDeskModel_isWord_46 (vp_in_iff.mpr (by have := yR.1 15 _ _ rfl; have := yR.1 16 _ _ rfl; have := yR.1 19 _ _ rfl; omega)) (fun v13 e14 => ?_)
      have := yR.a (k := 13) rfl ((v7 + 0) : Int32).toNatClampNeg
      have h15 : (v7 + 0).toNatClampNeg = (rv M0 o0 16).toNat + 0 := by have := mz_nat9 (i := (v7 + 0)) (by have := yR.1 15 _ _ rfl; have := yR.1 16 _ _ rfl; have := yR.1 19 _ _ rfl; omega); have := yR.1 15 _ _ rfl; have := yR.1 16 _ _ rfl; have := yR.1 19 _ _ rfl; omega
      have : v13.toInt = ra M0 o0 13 ((rv M0 o0 16).toNat + 0) := by rw [e14, h15]
      refine mv_aload_n d_TrustDeskModel_isWord_47 rfl rfl ?_
      refine mv_iload_n d_TrustDeskModel_isWord_48 rfl rfl ?_
      refine mv_schC (i := 11) (v := 110) d_TrustDeskModel_isWord_49 lV_TrustDeskModel_220 (by decide) rfl (by decide) (by decide) (Nat.le_of_ble_eq_true rfl) (by decide) ?_
      have := mz_hi v13
      refine mv_icmp_eqZ (tgt := 57) (a := v13.toInt) (b := 110) d_TrustDeskModel_isWord_52 (by decide) rfl (by decide) (fun b16 => ?_) (fun b16 => ?_)
      · refine mv_iinc (v := 1) (lv' := [(2, .int 1), (0, .ref o0), (1, .ref 21)]) d_TrustDeskModel_isWord_57 rfl (by decide) (by decide) rfl ?_
        refine mv_goto (tgt := 28) d_TrustDeskModel_isWord_60 (by decide) ?_
        refine mv_iload_n d_TrustDeskModel_isWord_28 rfl rfl ?_
        refine mv_aload_n d_TrustDeskModel_isWord_29 rfl rfl ?_
        refine mv_slenK (i := 11) (v := 4) d_TrustDeskModel_isWord_30 lV_TrustDeskModel_214 (by decide) rfl (by decide) (Nat.le_of_ble_eq_true rfl) ?_
        refine mv_icmp_ge_f (tgt := 63) d_TrustDeskModel_isWord_33 (by decide) (by decide) ?_
        refine mv_aload_n d_TrustDeskModel_isWord_36 rfl rfl ?_
        refine tr_getK (k := 13) q10 d_TrustDeskModel_isWord_37 f_TrustDeskModel_44_13 ?_
        refine mv_aload_n d_TrustDeskModel_isWord_40 rfl rfl ?_
        refine tr_getK (k := 16) q6 d_TrustDeskModel_isWord_41 f_TrustDeskModel_195_13 ?_
        refine mv_iload_n d_TrustDeskModel_isWord_44 rfl rfl ?_
        refine mv_iadd d_TrustDeskModel_isWord_45 ?_
        have b17 : (v7 + 1 : Int32).toInt = (v7.toInt + 1) := mz_add2 rfl (by decide) (by have := yR.1 15 _ _ rfl; have := yR.1 16 _ _ rfl; have := yR.1 19 _ _ rfl; omega) (by have := yR.1 15 _ _ rfl; have := yR.1 16 _ _ rfl; have := yR.1 19 _ _ rfl; omega)
        refine tr_baldR (o := o0) (k := 13) I0 q10 t_a11 (by decide) d_TrustDeskModel_isWord_46 (vp_in_iff.mpr (by have := yR.1 15 _ _ rfl; have := yR.1 16 _ _ rfl; have := yR.1 19 _ _ rfl; omega)) (fun v18 e19 => ?_)
        have := yR.a (k := 13) rfl ((v7 + 1) : Int32).toNatClampNeg
        have h20 : (v7 + 1).toNatClampNeg = (rv M0 o0 16).toNat + 1 := by have := mz_nat9 (i := (v7 + 1)) (by have := yR.1 15 _ _ rfl; have := yR.1 16 _ _ rfl; have := yR.1 19 _ _ rfl; omega); have := yR.1 15 _ _ rfl; have := yR.1 16 _ _ rfl; have := yR.1 19 _ _ rfl; omega
        have : v18.toInt = ra M0 o0 13 ((rv M0 o0 16).toNat + 1) := by rw [e19, h20]
        refine mv_aload_n d_TrustDeskModel_isWord_47 rfl rfl ?_
        refine mv_iload_n d_TrustDeskModel_isWord_48 rfl rfl ?_
        refine mv_schC (i := 11) (v := 101) d_TrustDeskModel_isWord_49 lV_TrustDeskModel_220 (by decide) rfl (by decide) (by decide) (Nat.le_of_ble_eq_true rfl) (by decide) ?_
        have := mz_hi v18
        refine mv_icmp_eqZ (tgt := 57) (a := v18.toInt) (b := 101) d_TrustDeskModel_isWord_52 (by decide) rfl (by decide) (fun b21 => ?_) (fun b21 => ?_)
        · refine mv_iinc (v := 2) (lv' := [(2, .int 2), (0, .ref o0), (1, .ref 21)]) d_TrustDeskModel_isWord_57 rfl (by decide) (by decide) rfl ?_
          refine mv_goto (tgt := 28) d_TrustDeskModel_isWord_60 (by decide) ?_
          refine mv_iload_n d_TrustDeskModel_isWord_28 rfl rfl ?_
          refine mv_aload_n d_TrustDeskModel_isWord_29 rfl rfl ?_
          refine mv_slenK (i := 11) (v := 4) d_TrustDeskModel_isWord_30 lV_TrustDeskModel_214 (by decide) rfl (by decide) (Nat.le_of_ble_eq_true rfl) ?_
          refine mv_icmp_ge_f (tgt := 63) d_TrustDeskModel_isWord_33 (by decide) (by decide) ?_
          refine mv_aload_n d_TrustDeskModel_isWord_36 rfl rfl ?_
          refine tr_getK (k := 13) q10 d_TrustDeskModel_isWord_37 f_TrustDeskModel_44_13 ?_
          refine mv_aload_n d_TrustDeskModel_isWord_40 rfl rfl ?_
          refine tr_getK (k := 16) q6 d_TrustDeskModel_isWord_41 f_TrustDeskModel_195_13 ?_
          refine mv_iload_n d_TrustDeskModel_isWord_44 rfl rfl ?_
          refine mv_iadd d_TrustDeskModel_isWord_45 ?_
          have b22 : (v7 + 2 : Int32).toInt = (v7.toInt + 2) := mz_add2 rfl (by decide) (by have := yR.1 15 _ _ rfl; have := yR.1 16 _ _ rfl; have := yR.1 19 _ _ rfl; omega) (by have := yR.1 15 _ _ rfl; have := yR.1 16 _ _ rfl; have := yR.1 19 _ _ rfl; omega)
          refine tr_baldR (o := o0) (k := 13) I0 q10 t_a11 (by decide) d_TrustDeskModel_isWord_46 (vp_in_iff.mpr (by have := yR.1 15 _ _ rfl; have := yR.1 16 _ _ rfl; have := yR.1 19 _ _ rfl; omega)) (fun v23 e24 => ?_)
          have := yR.a (k := 13) rfl ((v7 + 2) : Int32).toNatClampNeg
          have h25 : (v7 + 2).toNatClampNeg = (rv M0 o0 16).toNat + 2 := by have := mz_nat9 (i := (v7 + 2)) (by have := yR.1 15 _ _ rfl; have := yR.1 16 _ _ rfl; have := yR.1 19 _ _ rfl; omega); have := yR.1 15 _ _ rfl; have := yR.1 16 _ _ rfl; have := yR.1 19 _ _ rfl; omega
          have : v23.toInt = ra M0 o0 13 ((rv M0 o0 16).toNat + 2) := by rw [e24, h25]
          refine mv_aload_n d_TrustDeskModel_isWord_47 rfl rfl ?_
          refine mv_iload_n d_TrustDeskModel_isWord_48 rfl rfl ?_
          refine mv_schC (i := 11) (v := 97) d_TrustDeskModel_isWord_49 lV_TrustDeskModel_220 (by decide) rfl (by decide) (by decide) (Nat.le_of_ble_eq_true rfl) (by decide) ?_
          have := mz_hi v23
          refine mv_icmp_eqZ (tgt := 57) (a := v23.toInt) (b := 97) d_TrustDeskModel_isWord_52 (by decide) rfl (by decide) (fun b26 => ?_) (fun b26 => ?_)
          · refine mv_iinc (v := 3) (lv' := [(2, .int 3), (0, .ref o0), (1, .ref 21)]) d_TrustDeskModel_isWord_57 rfl (by decide) (by decide) rfl ?_
            refine mv_goto (tgt := 28) d_TrustDeskModel_isWord_60 (by decide) ?_
            refine mv_iload_n d_TrustDeskModel_isWord_28 rfl rfl ?_
            refine mv_aload_n d_TrustDeskModel_isWord_29 rfl rfl ?_
            refine mv_slenK (i := 11) (v := 4) d_TrustDeskModel_isWord_30 lV_TrustDeskModel_214 (by decide) rfl (by decide) (Nat.le_of_ble_eq_true rfl) ?_
            refine mv_icmp_ge_f (tgt := 63) d_TrustDeskModel_isWord_33 (by decide) (by decide) ?_
            refine mv_aload_n d_TrustDeskModel_isWord_36 rfl rfl ?_
            refine tr_getK (k := 13) q10 d_TrustDeskModel_isWord_37 f_TrustDeskModel_44_13 ?_
            refine mv_aload_n d_TrustDeskModel_isWord_40 rfl rfl ?_
            refine tr_getK (k := 16) q6 d_TrustDeskModel_isWord_41 f_TrustDeskModel_195_13 ?_
            refine mv_iload_n d_TrustDeskModel_isWord_44 rfl rfl ?_
            refine mv_iadd d_TrustDeskModel_isWord_45 ?_
            have b27 : (v7 + 3 : Int32).toInt = (v7.toInt + 3) := mz_add2 rfl (by decide) (by have := yR.1 15 _ _ rfl; have := yR.1 16 _ _ rfl; have := yR.1 19 _ _ rfl; omega) (by have := yR.1 15 _ _ rfl; have := yR.1 16 _ _ rfl; have := yR.1 19 _ _ rfl; omega)
            refine tr_baldR (o := o0) (k := 13) I0 q10 t_a11 (by decide) d_TrustDeskModel_isWord_46 (vp_in_iff.mpr (by have := yR.1 15 _ _ rfl; have := yR.1 16 _ _ rfl; have := yR.1 19 _ _ rfl; omega)) (fun v28 e29 => ?_)
            have := yR.a (k := 13) rfl ((v7 + 3) : Int32).toNatClampNeg
            have h30 : (v7 + 3).toNatClampNeg = (rv M0 o0 16).toNat + 3 := by have := mz_nat9 (i := (v7 + 3)) (by have := yR.1 15 _ _ rfl; have := yR.1 16 _ _ rfl; have := yR.1 19 _ _ rfl; omega); have := yR.1 15 _ _ rfl; have := yR.1 16 _ _ rfl; have := yR.1 19 _ _ rfl; omega
            have : v28.toInt = ra M0 o0 13 ((rv M0 o0 16).toNat + 3) := by rw [e29, h30]
            refine mv_aload_n d_TrustDeskModel_isWord_47 rfl rfl ?_
            refine mv_iload_n d_TrustDeskModel_isWord_48 rfl rfl ?_
            refine mv_schC (i := 11) (v := 114) d_TrustDeskModel_isWord_49 lV_TrustDeskModel_220 (by decide) rfl (by decide) (by decide) (Nat.le_of_ble_eq_true rfl) (by decide) ?_
            have := mz_hi v28
            refine mv_icmp_eqZ (tgt := 57) (a := v28.toInt) (b := 114) d_TrustDeskModel_isWord_52 (by decide) rfl (by decide) (fun b31 => ?_) (fun b31 => ?_)
            · refine mv_iinc (v := 4) (lv' := [(2, .int 4), (0, .ref o0), (1, .ref 21)]) d_TrustDeskModel_isWord_57 rfl (by decide) (by decide) rfl ?_
              refine mv_goto (tgt := 28) d_TrustDeskModel_isWord_60 (by decide) ?_
              refine mv_iload_n d_TrustDeskModel_isWord_28 rfl rfl ?_
              refine mv_aload_n d_TrustDeskModel_isWord_29 rfl rfl ?_
              refine mv_slenK (i := 11) (v := 4) d_TrustDeskModel_isWord_30 lV_TrustDeskModel_214 (by decide) rfl (by decide) (Nat.le_of_ble_eq_true rfl) ?_
              refine mv_icmp_ge_t (tgt := 63) d_TrustDeskModel_isWord_33 (by decide) (by decide) ?_
              refine mv_iconst (v := 1) d_TrustDeskModel_isWord_63 (by decide) ?_
              exact mv_iret d_TrustDeskModel_isWord_64 rfl (by decide) ⟨_, I0, _, rfl, by decide, by decide, yR, (fun _ => by have := yR.1 15 _ _ rfl; have := yR.1 16 _ _ rfl; have := yR.1 19 _ _ rfl; omega), (fun _ => ⟨by have := yR.1 15 _ _ rfl; have := yR.1 16 _ _ rfl; have := yR.1 19 _ _ rfl; omega, by have := yR.1 15 _ _ rfl; have := yR.1 16 _ _ rfl; have := yR.1 19 _ _ rfl; omega, by have := yR.1 15 _ _ rfl; have := yR.1 16 _ _ rfl; have := yR.1 19 _ _ rfl; omega, by have := yR.1 15 _ _ rfl; have := yR.1 16 _ _ rfl; have := yR.1 19 _ _ rfl; omega, by have := yR.1 15 _ _ rfl; have := yR.1 16 _ _ rfl; have := yR.1 19 _ _ rfl; omega, by have := yR.1 15 _ _ rfl; have := yR.1 16 _ _ rfl; have := yR.1 19 _ _ rfl; omega⟩), (fun h => absurd h (by decide))⟩
            · refine mv_iconst (v := 0) d_TrustDeskModel_isWord_55 (by decide) ?_
              exact mv_iret d_TrustDeskModel_isWord_56 rfl (by decide) ⟨_, I0, _, rfl, by decide, by decide, yR, (fun h => absurd h (by decide)), (fun h => absurd h (by decide)), (fun _ h => by obtain ⟨h1, h2, h3, h4, h5, h6⟩ := h; have := yR.1 15 _ _ rfl; have := yR.1 16 _ _ rfl; have := yR.1 19 _ _ rfl; omega)⟩
          · refine mv_iconst (v := 0) d_TrustDeskModel_isWord_55 (by decide) ?_
            exact mv_iret d_TrustDeskModel_isWord_56 rfl (by decide) ⟨_, I0, _, rfl, by decide, by decide, yR, (fun h => absurd h (by decide)), (fun h => absurd h (by decide)), (fun _ h => by obtain ⟨h1, h2, h3, h4, h5, h6⟩ := h; have := yR.1 15 _ _ rfl; have := yR.1 16 _ _ rfl; have := yR.1 19 _ _ rfl; omega)⟩
        · refine mv_iconst (v := 0) d_TrustDeskModel_isWord_55 (by decide) ?_
          exact mv_iret d_TrustDeskModel_isWord_56 rfl (by decide) ⟨_, I0, _, rfl, by decide, by decide, yR, (fun h => absurd h (by decide)), (fun h => absurd h (by decide)), (fun _ h => by obtain ⟨h1, h2, h3, h4, h5, h6⟩ := h; have := yR.1 15 _ _ rfl; have := yR.1 16 _ _ rfl; have := yR.1 19 _ _ rfl; omega)⟩
      · refine mv_iconst (v := 0) d_TrustDeskModel_isWord_55 (by decide) ?_
        exact mv_iret d_TrustDeskModel_isWord_56 rfl (by decide) ⟨_, I0, _, rfl, by decide, by decide, yR, (fun h => absurd h (by decide)), (fun h => absurd h (by decide)), (fun _ h => by obtain ⟨h1, h2, h3, h4, h5, h6⟩ := h; have := yR.1 15 _ _ rfl; have := yR.1 16 _ _ rfl; have := yR.1 19 _ _ rfl; omega)⟩
    · refine mv_iconst (v := 0) d_TrustDeskModel_isWord_24 (by decide) ?_
      exact mv_iret d_TrustDeskModel_isWord_25 rfl (by decide) ⟨_, I0, _, rfl, by decide, by decide, yR, (fun h => absurd h (by decide)), (fun h => absurd h (by decide)), (fun _ h => by obtain ⟨h1, h2, h3, h4, h5, h6⟩ := h; have := yR.1 15 _ _ rfl; have := yR.1 16 _ _ rfl; have := yR.1 19 _ _ rfl; omega)⟩
theorem d_TrustDeskModel_readRule_67 : decode kY_TrustDeskModel_readRule.2.1 67 = .ok (.ifCond .eq 7, 3) := by decide +kernel
theorem d_TrustDeskModel_readRule_74 : decode kY_TrustDeskModel_readRule.2.1 74 = .ok (.aload_n 0, 1) := by decide +kernel
theorem d_TrustDeskModel_readRule_75 : decode kY_TrustDeskModel_readRule.2.1 75 = .ok (.ldc_w 370, 3) := by decide +kernel
theorem d_TrustDeskModel_readRule_78 : decode kY_TrustDeskModel_readRule.2.1 78 = .ok (.invokevirtual 244, 3) := by decide +kernel
def w_TrustDeskModel_isWord_s1_22_x : List Nat := []
set_option maxHeartbeats 100000000 in theorem tc_TrustDeskModel_isWord_s1_22_x {g : mj_G} {l : Launch} {d : Nat} {T0 : tm_H} {M0 : mj_M} {n0 x9 : Nat} {o0 : Nat} (h_o0 : T0 o0 = some (0, 13, 0)) (yR : rI M0 o0) (I0 : tm_I tm_FT (tm_in w_TrustDeskModel_isWord_s1_22_x) x9 T0 M0 n0 T0 M0 n0) : mj_Met g l kY_TrustDeskModel_isWord (d + 4) [.ref o0, .ref 22] M0 n0 0 0 (tm_Q tm_FT (tm_in w_TrustDeskModel_isWord_s1_22_x) x9 T0 M0 n0 (fun r _ M => ∃ v : Int32, r = some (.int v) ∧ 0 ≤ v.toInt ∧ v.toInt ≤ 1 ∧ rI M o0 ∧ (v.toInt = 1 → rv M0 o0 17 = 3) ∧ (v.toInt = 1 → rv M0 o0 17 = 3 ∧ rv M0 o0 15 - rv M0 o0 16 = 4 ∧ ra M0 o0 13 ((rv M0 o0 16).toNat + 0) = 106 ∧ ra M0 o0 13 ((rv M0 o0 16).toNat + 1) = 111 ∧ ra M0 o0 13 ((rv M0 o0 16).toNat + 2) = 105 ∧ ra M0 o0 13 ((rv M0 o0 16).toNat + 3) = 110) ∧ (v.toInt = 0 → ¬ (rv M0 o0 17 = 3 ∧ rv M0 o0 15 - rv M0 o0 16 = 4 ∧ ra M0 o0 13 ((rv M0 o0 16).toNat + 0) = 106 ∧ ra M0 o0 13 ((rv M0 o0 16).toNat + 1) = 111 ∧ ra M0 o0 13 ((rv M0 o0 16).toNat + 2) = 105 ∧ ra M0 o0 13 ((rv M0 o0 16).toNat + 3) = 110)))) := by
  refine mj_enter (by decide) (Nat.le_of_ble_eq_true rfl) ?_
  refine mv_aload_n d_TrustDeskModel_isWord_0 rfl rfl ?_
  obtain ⟨v2, q1⟩ := tm_atI I0 h_o0 (k := 17) rfl
  refine tr_getK q1 d_TrustDeskModel_isWord_1 f_TrustDeskModel_198_13 ?_
  have := tm_rv q1
  refine mv_iconst (v := 3) d_TrustDeskModel_isWord_4 (by decide) ?_
  have := mz_hi v2
  refine mv_icmp_neZ (tgt := 24) (a := v2.toInt) (b := 3) d_TrustDeskModel_isWord_5 (by decide) rfl (by decide) (fun b3 => ?_) (fun b3 => ?_)
  · refine mv_iconst (v := 0) d_TrustDeskModel_isWord_24 (by decide) ?_
    exact mv_iret d_TrustDeskModel_isWord_25 rfl (by decide) ⟨_, I0, _, rfl, by decide, by decide, yR, (fun h => absurd h (by decide)), (fun h => absurd h (by decide)), (fun _ h => by obtain ⟨h1, h2, h3, h4, h5, h6⟩ := h; have := yR.1 15 _ _ rfl; have := yR.1 16 _ _ rfl; have := yR.1 19 _ _ rfl; omega)⟩
  · refine mv_aload_n d_TrustDeskModel_isWord_8 rfl rfl ?_
    obtain ⟨v5, q4⟩ := tm_atI I0 h_o0 (k := 15) rfl
    refine tr_getK q4 d_TrustDeskModel_isWord_9 f_TrustDeskModel_192_13 ?_
    have := yR.f (k := 15) q4 rfl
    have := tm_rv q4
    refine mv_aload_n d_TrustDeskModel_isWord_12 rfl rfl ?_
    obtain ⟨v7, q6⟩ := tm_atI I0 h_o0 (k := 16) rfl
    refine tr_getK q6 d_TrustDeskModel_isWord_13 f_TrustDeskModel_195_13 ?_
    have := yR.f (k := 16) q6 rfl
    have := tm_rv q6
    refine mv_isub d_TrustDeskModel_isWord_16 ?_
    refine mv_aload_n d_TrustDeskModel_isWord_17 rfl rfl ?_
    refine mv_slenK (i := 12) (v := 4) d_TrustDeskModel_isWord_18 lV_TrustDeskModel_214 (by decide) rfl (by decide) (Nat.le_of_ble_eq_true rfl) ?_
    have b8 : (v5 - v7 : Int32).toInt = (v5.toInt - v7.toInt) := mz_sub2 rfl rfl (by have := yR.1 15 _ _ rfl; have := yR.1 16 _ _ rfl; have := yR.1 19 _ _ rfl; omega) (by have := yR.1 15 _ _ rfl; have := yR.1 16 _ _ rfl; have := yR.1 19 _ _ rfl; omega)
    have := mz_hi (v5 - v7)
    refine mv_icmp_eqZ (tgt := 26) (a := (v5 - v7).toInt) (b := 4) d_TrustDeskModel_isWord_21 (by decide) rfl (by decide) (fun b9 => ?_) (fun b9 => ?_)
    · refine mv_iconst (v := 0) d_TrustDeskModel_isWord_26 (by decide) ?_
      refine mv_istore_n (lv' := [(2, .int 0), (0, .ref o0), (1, .ref 22)]) d_TrustDeskModel_isWord_27 rfl (by decide) rfl ?_
      refine mv_iload_n d_TrustDeskModel_isWord_28 rfl rfl ?_
      refine mv_aload_n d_TrustDeskModel_isWord_29 rfl rfl ?_
      refine mv_slenK (i := 12) (v := 4) d_TrustDeskModel_isWord_30 lV_TrustDeskModel_214 (by decide) rfl (by decide) (Nat.le_of_ble_eq_true rfl) ?_
      refine mv_icmp_ge_f (tgt := 63) d_TrustDeskModel_isWord_33 (by decide) (by decide) ?_
      refine mv_aload_n d_TrustDeskModel_isWord_36 rfl rfl ?_
      obtain ⟨a11, q10, t_a11⟩ := tm_atR I0 h_o0 (k := 13) rfl
      refine tr_getK q10 d_TrustDeskModel_isWord_37 f_TrustDeskModel_44_13 ?_
      refine mv_aload_n d_TrustDeskModel_isWord_40 rfl rfl ?_
      refine tr_getK (k := 16) q6 d_TrustDeskModel_isWord_41 f_TrustDeskModel_195_13 ?_
      refine mv_iload_n d_TrustDeskModel_isWord_44 rfl rfl ?_
      refine mv_iadd d_TrustDeskModel_isWord_45 ?_
      have b12 : (v7 + 0 : Int32).toInt = (v7.toInt + 0) := mz_add2 rfl (by decide) (by have := yR.1 15 _ _ rfl; have := yR.1 16 _ _ rfl; have := yR.1 19 _ _ rfl; omega) (by have := yR.1 15 _ _ rfl; have := yR.1 16 _ _ rfl; have := yR.1 19 _ _ rfl; omega)
      refine tr_baldR (o := o0) (k := 13) I0 q10 t_a11 (by decide) d_TrustDeskModel_isWord_46 (vp_in_iff.mpr (by have := yR.1 15 _ _ rfl; have := yR.1 16 _ _ rfl; have := yR.1 19 _ _ rfl; omega)) (fun v13 e14 => ?_)
      have := yR.a (k := 13) rfl ((v7 + 0) : Int32).toNatClampNeg
      have h15 : (v7 + 0).toNatClampNeg = (rv M0 o0 16).toNat + 0 := by have := mz_nat9 (i := (v7 + 0)) (by have := yR.1 15 _ _ rfl; have := yR.1 16 _ _ rfl; have := yR.1 19 _ _ rfl; omega); have := yR.1 15 _ _ rfl; have := yR.1 16 _ _ rfl; have := yR.1 19 _ _ rfl; omega
      have : v13.toInt = ra M0 o0 13 ((rv M0 o0 16).toNat + 0) := by rw [e14, h15]
      refine mv_aload_n d_TrustDeskModel_isWord_47 rfl rfl ?_
      refine mv_iload_n d_TrustDeskModel_isWord_48 rfl rfl ?_
      refine mv_schC (i := 12) (v := 106) d_TrustDeskModel_isWord_49 lV_TrustDeskModel_220 (by decide) rfl (by decide) (by decide) (Nat.le_of_ble_eq_true rfl) (by decide) ?_
      have := mz_hi v13
      refine mv_icmp_eqZ (tgt := 57) (a := v13.toInt) (b := 106) d_TrustDeskModel_isWord_52 (by decide) rfl (by decide) (fun b16 => ?_) (fun b16 => ?_)
      · refine mv_iinc (v := 1) (lv' := [(2, .int 1), (0, .ref o0), (1, .ref 22)]) d_TrustDeskModel_isWord_57 rfl (by decide) (by decide) rfl ?_
        refine mv_goto (tgt := 28) d_TrustDeskModel_isWord_60 (by decide) ?_
        refine mv_iload_n d_TrustDeskModel_isWord_28 rfl rfl ?_
        refine mv_aload_n d_TrustDeskModel_isWord_29 rfl rfl ?_
        refine mv_slenK (i := 12) (v := 4) d_TrustDeskModel_isWord_30 lV_TrustDeskModel_214 (by decide) rfl (by decide) (Nat.le_of_ble_eq_true rfl) ?_
        refine mv_icmp_ge_f (tgt := 63) d_TrustDeskModel_isWord_33 (by decide) (by decide) ?_
        refine mv_aload_n d_TrustDeskModel_isWord_36 rfl rfl ?_
        refine tr_getK (k := 13) q10 d_TrustDeskModel_isWord_37 f_TrustDeskModel_44_13 ?_
        refine mv_aload_n d_TrustDeskModel_isWord_40 rfl rfl ?_
        refine tr_getK (k := 16) q6 d_TrustDeskModel_isWord_41 f_TrustDeskModel_195_13 ?_
        refine mv_iload_n d_TrustDeskModel_isWord_44 rfl rfl ?_
        refine mv_iadd d_TrustDeskModel_isWord_45 ?_
        have b17 : (v7 + 1 : Int32).toInt = (v7.toInt + 1) := mz_add2 rfl (by decide) (by have := yR.1 15 _ _ rfl; have := yR.1 16 _ _ rfl; have := yR.1 19 _ _ rfl; omega) (by have := yR.1 15 _ _ rfl; have := yR.1 16 _ _ rfl; have := yR.1 19 _ _ rfl; omega)
        refine tr_baldR (o := o0) (k := 13) I0 q10 t_a11 (by decide) d_TrustDeskModel_isWord_46 (vp_in_iff.mpr (by have := yR.1 15 _ _ rfl; have := yR.1 16 _ _ rfl; have := yR.1 19 _ _ rfl; omega)) (fun v18 e19 => ?_)
        have := yR.a (k := 13) rfl ((v7 + 1) : Int32).toNatClampNeg
        have h20 : (v7 + 1).toNatClampNeg = (rv M0 o0 16).toNat + 1 := by have := mz_nat9 (i := (v7 + 1)) (by have := yR.1 15 _ _ rfl; have := yR.1 16 _ _ rfl; have := yR.1 19 _ _ rfl; omega); have := yR.1 15 _ _ rfl; have := yR.1 16 _ _ rfl; have := yR.1 19 _ _ rfl; omega
        have : v18.toInt = ra M0 o0 13 ((rv M0 o0 16).toNat + 1) := by rw [e19, h20]
        refine mv_aload_n d_TrustDeskModel_isWord_47 rfl rfl ?_
        refine mv_iload_n d_TrustDeskModel_isWord_48 rfl rfl ?_
        refine mv_schC (i := 12) (v := 111) d_TrustDeskModel_isWord_49 lV_TrustDeskModel_220 (by decide) rfl (by decide) (by decide) (Nat.le_of_ble_eq_true rfl) (by decide) ?_
        have := mz_hi v18
        refine mv_icmp_eqZ (tgt := 57) (a := v18.toInt) (b := 111) d_TrustDeskModel_isWord_52 (by decide) rfl (by decide) (fun b21 => ?_) (fun b21 => ?_)
        · refine mv_iinc (v := 2) (lv' := [(2, .int 2), (0, .ref o0), (1, .ref 22)]) d_TrustDeskModel_isWord_57 rfl (by decide) (by decide) rfl ?_
          refine mv_goto (tgt := 28) d_TrustDeskModel_isWord_60 (by decide) ?_
          refine mv_iload_n d_TrustDeskModel_isWord_28 rfl rfl ?_
          refine mv_aload_n d_TrustDeskModel_isWord_29 rfl rfl ?_
          refine mv_slenK (i := 12) (v := 4) d_TrustDeskModel_isWord_30 lV_TrustDeskModel_214 (by decide) rfl (by decide) (Nat.le_of_ble_eq_true rfl) ?_
          refine mv_icmp_ge_f (tgt := 63) d_TrustDeskModel_isWord_33 (by decide) (by decide) ?_
          refine mv_aload_n d_TrustDeskModel_isWord_36 rfl rfl ?_
          refine tr_getK (k := 13) q10 d_TrustDeskModel_isWord_37 f_TrustDeskModel_44_13 ?_
          refine mv_aload_n d_TrustDeskModel_isWord_40 rfl rfl ?_
          refine tr_getK (k := 16) q6 d_TrustDeskModel_isWord_41 f_TrustDeskModel_195_13 ?_
          refine mv_iload_n d_TrustDeskModel_isWord_44 rfl rfl ?_
          refine mv_iadd d_TrustDeskModel_isWord_45 ?_
          have b22 : (v7 + 2 : Int32).toInt = (v7.toInt + 2) := mz_add2 rfl (by decide) (by have := yR.1 15 _ _ rfl; have := yR.1 16 _ _ rfl; have := yR.1 19 _ _ rfl; omega) (by have := yR.1 15 _ _ rfl; have := yR.1 16 _ _ rfl; have := yR.1 19 _ _ rfl; omega)
          refine tr_baldR (o := o0) (k := 13) I0 q10 t_a11 (by decide) d_TrustDeskModel_isWord_46 (vp_in_iff.mpr (by have := yR.1 15 _ _ rfl; have := yR.1 16 _ _ rfl; have := yR.1 19 _ _ rfl; omega)) (fun v23 e24 => ?_)
          have := yR.a (k := 13) rfl ((v7 + 2) : Int32).toNatClampNeg
          have h25 : (v7 + 2).toNatClampNeg = (rv M0 o0 16).toNat + 2 := by have := mz_nat9 (i := (v7 + 2)) (by have := yR.1 15 _ _ rfl; have := yR.1 16 _ _ rfl; have := yR.1 19 _ _ rfl; omega); have := yR.1 15 _ _ rfl; have := yR.1 16 _ _ rfl; have := yR.1 19 _ _ rfl; omega
          have : v23.toInt = ra M0 o0 13 ((rv M0 o0 16).toNat + 2) := by rw [e24, h25]
          refine mv_aload_n d_TrustDeskModel_isWord_47 rfl rfl ?_
          refine mv_iload_n d_TrustDeskModel_isWord_48 rfl rfl ?_
          refine mv_schC (i := 12) (v := 105) d_TrustDeskModel_isWord_49 lV_TrustDeskModel_220 (by decide) rfl (by decide) (by decide) (Nat.le_of_ble_eq_true rfl) (by decide) ?_
          have := mz_hi v23
          refine mv_icmp_eqZ (tgt := 57) (a := v23.toInt) (b := 105) d_TrustDeskModel_isWord_52 (by decide) rfl (by decide) (fun b26 => ?_) (fun b26 => ?_)
          · refine mv_iinc (v := 3) (lv' := [(2, .int 3), (0, .ref o0), (1, .ref 22)]) d_TrustDeskModel_isWord_57 rfl (by decide) (by decide) rfl ?_
            refine mv_goto (tgt := 28) d_TrustDeskModel_isWord_60 (by decide) ?_
            refine mv_iload_n d_TrustDeskModel_isWord_28 rfl rfl ?_
            refine mv_aload_n d_TrustDeskModel_isWord_29 rfl rfl ?_
            refine mv_slenK (i := 12) (v := 4) d_TrustDeskModel_isWord_30 lV_TrustDeskModel_214 (by decide) rfl (by decide) (Nat.le_of_ble_eq_true rfl) ?_
            refine mv_icmp_ge_f (tgt := 63) d_TrustDeskModel_isWord_33 (by decide) (by decide) ?_
            refine mv_aload_n d_TrustDeskModel_isWord_36 rfl rfl ?_
            refine tr_getK (k := 13) q10 d_TrustDeskModel_isWord_37 f_TrustDeskModel_44_13 ?_
            refine mv_aload_n d_TrustDeskModel_isWord_40 rfl rfl ?_
            refine tr_getK (k := 16) q6 d_TrustDeskModel_isWord_41 f_TrustDeskModel_195_13 ?_
            refine mv_iload_n d_TrustDeskModel_isWord_44 rfl rfl ?_
            refine mv_iadd d_TrustDeskModel_isWord_45 ?_
            have b27 : (v7 + 3 : Int32).toInt = (v7.toInt + 3) := mz_add2 rfl (by decide) (by have := yR.1 15 _ _ rfl; have := yR.1 16 _ _ rfl; have := yR.1 19 _ _ rfl; omega) (by have := yR.1 15 _ _ rfl; have := yR.1 16 _ _ rfl; have := yR.1 19 _ _ rfl; omega)
            refine tr_baldR (o := o0) (k := 13) I0 q10 t_a11 (by decide) d_TrustDeskModel_isWord_46 (vp_in_iff.mpr (by have := yR.1 15 _ _ rfl; have := yR.1 16 _ _ rfl; have := yR.1 19 _ _ rfl; omega)) (fun v28 e29 => ?_)
            have := yR.a (k := 13) rfl ((v7 + 3) : Int32).toNatClampNeg
            have h30 : (v7 + 3).toNatClampNeg = (rv M0 o0 16).toNat + 3 := by have := mz_nat9 (i := (v7 + 3)) (by have := yR.1 15 _ _ rfl; have := yR.1 16 _ _ rfl; have := yR.1 19 _ _ rfl; omega); have := yR.1 15 _ _ rfl; have := yR.1 16 _ _ rfl; have := yR.1 19 _ _ rfl; omega
            have : v28.toInt = ra M0 o0 13 ((rv M0 o0 16).toNat + 3) := by rw [e29, h30]
            refine mv_aload_n d_TrustDeskModel_isWord_47 rfl rfl ?_
            refine mv_iload_n d_TrustDeskModel_isWord_48 rfl rfl ?_
            refine mv_schC (i := 12) (v := 110) d_TrustDeskModel_isWord_49 lV_TrustDeskModel_220 (by decide) rfl (by decide) (by decide) (Nat.le_of_ble_eq_true rfl) (by decide) ?_
            have := mz_hi v28
            refine mv_icmp_eqZ (tgt := 57) (a := v28.toInt) (b := 110) d_TrustDeskModel_isWord_52 (by decide) rfl (by decide) (fun b31 => ?_) (fun b31 => ?_)
            · refine mv_iinc (v := 4) (lv' := [(2, .int 4), (0, .ref o0), (1, .ref 22)]) d_TrustDeskModel_isWord_57 rfl (by decide) (by decide) rfl ?_
              refine mv_goto (tgt := 28) d_TrustDeskModel_isWord_60 (by decide) ?_
              refine mv_iload_n d_TrustDeskModel_isWord_28 rfl rfl ?_
              refine mv_aload_n d_TrustDeskModel_isWord_29 rfl rfl ?_
              refine mv_slenK (i := 12) (v := 4) d_TrustDeskModel_isWord_30 lV_TrustDeskModel_214 (by decide) rfl (by decide) (Nat.le_of_ble_eq_true rfl) ?_
              refine mv_icmp_ge_t (tgt := 63) d_TrustDeskModel_isWord_33 (by decide) (by decide) ?_
              refine mv_iconst (v := 1) d_TrustDeskModel_isWord_63 (by decide) ?_
              exact mv_iret d_TrustDeskModel_isWord_64 rfl (by decide) ⟨_, I0, _, rfl, by decide, by decide, yR, (fun _ => by have := yR.1 15 _ _ rfl; have := yR.1 16 _ _ rfl; have := yR.1 19 _ _ rfl; omega), (fun _ => ⟨by have := yR.1 15 _ _ rfl; have := yR.1 16 _ _ rfl; have := yR.1 19 _ _ rfl; omega, by have := yR.1 15 _ _ rfl; have := yR.1 16 _ _ rfl; have := yR.1 19 _ _ rfl; omega, by have := yR.1 15 _ _ rfl; have := yR.1 16 _ _ rfl; have := yR.1 19 _ _ rfl; omega, by have := yR.1 15 _ _ rfl; have := yR.1 16 _ _ rfl; have := yR.1 19 _ _ rfl; omega, by have := yR.1 15 _ _ rfl; have := yR.1 16 _ _ rfl; have := yR.1 19 _ _ rfl; omega, by have := yR.1 15 _ _ rfl; have := yR.1 16 _ _ rfl; have := yR.1 19 _ _ rfl; omega⟩), (fun h => absurd h (by decide))⟩
            · refine mv_iconst (v := 0) d_TrustDeskModel_isWord_55 (by decide) ?_
              exact mv_iret d_TrustDeskModel_isWord_56 rfl (by decide) ⟨_, I0, _, rfl, by decide, by decide, yR, (fun h => absurd h (by decide)), (fun h => absurd h (by decide)), (fun _ h => by obtain ⟨h1, h2, h3, h4, h5, h6⟩ := h; have := yR.1 15 _ _ rfl; have := yR.1 16 _ _ rfl; have := yR.1 19 _ _ rfl; omega)⟩
          · refine mv_iconst (v := 0) d_TrustDeskModel_isWord_55 (by decide) ?_
            exact mv_iret d_TrustDeskModel_isWord_56 rfl (by decide) ⟨_, I0, _, rfl, by decide, by decide, yR, (fun h => absurd h (by decide)), (fun h => absurd h (by decide)), (fun _ h => by obtain ⟨h1, h2, h3, h4, h5, h6⟩ := h; have := yR.1 15 _ _ rfl; have := yR.1 16 _ _ rfl; have := yR.1 19 _ _ rfl; omega)⟩
        · refine mv_iconst (v := 0) d_TrustDeskModel_isWord_55 (by decide) ?_
          exact mv_iret d_TrustDeskModel_isWord_56 rfl (by decide) ⟨_, I0, _, rfl, by decide, by decide, yR, (fun h => absurd h (by decide)), (fun h => absurd h (by decide)), (fun _ h => by obtain ⟨h1, h2, h3, h4, h5, h6⟩ := h; have := yR.1 15 _ _ rfl; have := yR.1 16 _ _ rfl; have := yR.1 19 _ _ rfl; omega)⟩
      · refine mv_iconst (v := 0) d_TrustDeskModel_isWord_55 (by decide) ?_
        exact mv_iret d_TrustDeskModel_isWord_56 rfl (by decide) ⟨_, I0, _, rfl, by decide, by decide, yR, (fun h => absurd h (by decide)), (fun h => absurd h (by decide)), (fun _ h => by obtain ⟨h1, h2, h3, h4, h5, h6⟩ := h; have := yR.1 15 _ _ rfl; have := yR.1 16 _ _ rfl; have := yR.1 19 _ _ rfl; omega)⟩
    · refine mv_iconst (v := 0) d_TrustDeskModel_isWord_24 (by decide) ?_
      exact mv_iret d_TrustDeskModel_isWord_25 rfl (by decide) ⟨_, I0, _, rfl, by decide, by decide, yR, (fun h => absurd h (by decide)), (fun h => absurd h (by decide)), (fun _ h => by obtain ⟨h1, h2, h3, h4, h5, h6⟩ := h; have := yR.1 15 _ _ rfl; have := yR.1 16 _ _ rfl; have := yR.1 19 _ _ rfl; omega)⟩
theorem d_TrustDeskModel_readRule_81 : decode kY_TrustDeskModel_readRule.2.1 81 = .ok (.ifCond .eq 7, 3) := by decide +kernel
theorem d_TrustDeskModel_readRule_88 : decode kY_TrustDeskModel_readRule.2.1 88 = .ok (.aload_n 0, 1) := by decide +kernel
theorem d_TrustDeskModel_readRule_89 : decode kY_TrustDeskModel_readRule.2.1 89 = .ok (.ldc_w 372, 3) := by decide +kernel
theorem d_TrustDeskModel_readRule_92 : decode kY_TrustDeskModel_readRule.2.1 92 = .ok (.invokevirtual 244, 3) := by decide +kernel
def w_TrustDeskModel_isWord_s1_23_x : List Nat := []
set_option maxHeartbeats 100000000 in theorem tc_TrustDeskModel_isWord_s1_23_x {g : mj_G} {l : Launch} {d : Nat} {T0 : tm_H} {M0 : mj_M} {n0 x9 : Nat} {o0 : Nat} (h_o0 : T0 o0 = some (0, 13, 0)) (yR : rI M0 o0) (I0 : tm_I tm_FT (tm_in w_TrustDeskModel_isWord_s1_23_x) x9 T0 M0 n0 T0 M0 n0) : mj_Met g l kY_TrustDeskModel_isWord (d + 4) [.ref o0, .ref 23] M0 n0 0 0 (tm_Q tm_FT (tm_in w_TrustDeskModel_isWord_s1_23_x) x9 T0 M0 n0 (fun r _ M => ∃ v : Int32, r = some (.int v) ∧ 0 ≤ v.toInt ∧ v.toInt ≤ 1 ∧ rI M o0 ∧ (v.toInt = 1 → rv M0 o0 17 = 3) ∧ (v.toInt = 1 → rv M0 o0 17 = 3 ∧ rv M0 o0 15 - rv M0 o0 16 = 4 ∧ ra M0 o0 13 ((rv M0 o0 16).toNat + 0) = 115 ∧ ra M0 o0 13 ((rv M0 o0 16).toNat + 1) = 97 ∧ ra M0 o0 13 ((rv M0 o0 16).toNat + 2) = 108 ∧ ra M0 o0 13 ((rv M0 o0 16).toNat + 3) = 101) ∧ (v.toInt = 0 → ¬ (rv M0 o0 17 = 3 ∧ rv M0 o0 15 - rv M0 o0 16 = 4 ∧ ra M0 o0 13 ((rv M0 o0 16).toNat + 0) = 115 ∧ ra M0 o0 13 ((rv M0 o0 16).toNat + 1) = 97 ∧ ra M0 o0 13 ((rv M0 o0 16).toNat + 2) = 108 ∧ ra M0 o0 13 ((rv M0 o0 16).toNat + 3) = 101)))) := by
  refine mj_enter (by decide) (Nat.le_of_ble_eq_true rfl) ?_
  refine mv_aload_n d_TrustDeskModel_isWord_0 rfl rfl ?_
  obtain ⟨v2, q1⟩ := tm_atI I0 h_o0 (k := 17) rfl
  refine tr_getK q1 d_TrustDeskModel_isWord_1 f_TrustDeskModel_198_13 ?_
  have := tm_rv q1
  refine mv_iconst (v := 3) d_TrustDeskModel_isWord_4 (by decide) ?_
  have := mz_hi v2
  refine mv_icmp_neZ (tgt := 24) (a := v2.toInt) (b := 3) d_TrustDeskModel_isWord_5 (by decide) rfl (by decide) (fun b3 => ?_) (fun b3 => ?_)
  · refine mv_iconst (v := 0) d_TrustDeskModel_isWord_24 (by decide) ?_
    exact mv_iret d_TrustDeskModel_isWord_25 rfl (by decide) ⟨_, I0, _, rfl, by decide, by decide, yR, (fun h => absurd h (by decide)), (fun h => absurd h (by decide)), (fun _ h => by obtain ⟨h1, h2, h3, h4, h5, h6⟩ := h; have := yR.1 15 _ _ rfl; have := yR.1 16 _ _ rfl; have := yR.1 19 _ _ rfl; omega)⟩
  · refine mv_aload_n d_TrustDeskModel_isWord_8 rfl rfl ?_
    obtain ⟨v5, q4⟩ := tm_atI I0 h_o0 (k := 15) rfl
    refine tr_getK q4 d_TrustDeskModel_isWord_9 f_TrustDeskModel_192_13 ?_
    have := yR.f (k := 15) q4 rfl
    have := tm_rv q4
    refine mv_aload_n d_TrustDeskModel_isWord_12 rfl rfl ?_
    obtain ⟨v7, q6⟩ := tm_atI I0 h_o0 (k := 16) rfl
    refine tr_getK q6 d_TrustDeskModel_isWord_13 f_TrustDeskModel_195_13 ?_
    have := yR.f (k := 16) q6 rfl
    have := tm_rv q6
    refine mv_isub d_TrustDeskModel_isWord_16 ?_
    refine mv_aload_n d_TrustDeskModel_isWord_17 rfl rfl ?_
    refine mv_slenK (i := 13) (v := 4) d_TrustDeskModel_isWord_18 lV_TrustDeskModel_214 (by decide) rfl (by decide) (Nat.le_of_ble_eq_true rfl) ?_
    have b8 : (v5 - v7 : Int32).toInt = (v5.toInt - v7.toInt) := mz_sub2 rfl rfl (by have := yR.1 15 _ _ rfl; have := yR.1 16 _ _ rfl; have := yR.1 19 _ _ rfl; omega) (by have := yR.1 15 _ _ rfl; have := yR.1 16 _ _ rfl; have := yR.1 19 _ _ rfl; omega)
    have := mz_hi (v5 - v7)
    refine mv_icmp_eqZ (tgt := 26) (a := (v5 - v7).toInt) (b := 4) d_TrustDeskModel_isWord_21 (by decide) rfl (by decide) (fun b9 => ?_) (fun b9 => ?_)
    · refine mv_iconst (v := 0) d_TrustDeskModel_isWord_26 (by decide) ?_
      refine mv_istore_n (lv' := [(2, .int 0), (0, .ref o0), (1, .ref 23)]) d_TrustDeskModel_isWord_27 rfl (by decide) rfl ?_
      refine mv_iload_n d_TrustDeskModel_isWord_28 rfl rfl ?_
      refine mv_aload_n d_TrustDeskModel_isWord_29 rfl rfl ?_
      refine mv_slenK (i := 13) (v := 4) d_TrustDeskModel_isWord_30 lV_TrustDeskModel_214 (by decide) rfl (by decide) (Nat.le_of_ble_eq_true rfl) ?_
      refine mv_icmp_ge_f (tgt := 63) d_TrustDeskModel_isWord_33 (by decide) (by decide) ?_
      refine mv_aload_n d_TrustDeskModel_isWord_36 rfl rfl ?_
      obtain ⟨a11, q10, t_a11⟩ := tm_atR I0 h_o0 (k := 13) rfl
      refine tr_getK q10 d_TrustDeskModel_isWord_37 f_TrustDeskModel_44_13 ?_
      refine mv_aload_n d_TrustDeskModel_isWord_40 rfl rfl ?_
      refine tr_getK (k := 16) q6 d_TrustDeskModel_isWord_41 f_TrustDeskModel_195_13 ?_
      refine mv_iload_n d_TrustDeskModel_isWord_44 rfl rfl ?_
      refine mv_iadd d_TrustDeskModel_isWord_45 ?_
      have b12 : (v7 + 0 : Int32).toInt = (v7.toInt + 0) := mz_add2 rfl (by decide) (by have := yR.1 15 _ _ rfl; have := yR.1 16 _ _ rfl; have := yR.1 19 _ _ rfl; omega) (by have := yR.1 15 _ _ rfl; have := yR.1 16 _ _ rfl; have := yR.1 19 _ _ rfl; omega)
      refine tr_baldR (o := o0) (k := 13) I0 q10 t_a11 (by decide) d_TrustDeskModel_isWord_46 (vp_in_iff.mpr (by have := yR.1 15 _ _ rfl; have := yR.1 16 _ _ rfl; have := yR.1 19 _ _ rfl; omega)) (fun v13 e14 => ?_)
      have := yR.a (k := 13) rfl ((v7 + 0) : Int32).toNatClampNeg
      have h15 : (v7 + 0).toNatClampNeg = (rv M0 o0 16).toNat + 0 := by have := mz_nat9 (i := (v7 + 0)) (by have := yR.1 15 _ _ rfl; have := yR.1 16 _ _ rfl; have := yR.1 19 _ _ rfl; omega); have := yR.1 15 _ _ rfl; have := yR.1 16 _ _ rfl; have := yR.1 19 _ _ rfl; omega
      have : v13.toInt = ra M0 o0 13 ((rv M0 o0 16).toNat + 0) := by rw [e14, h15]
      refine mv_aload_n d_TrustDeskModel_isWord_47 rfl rfl ?_
      refine mv_iload_n d_TrustDeskModel_isWord_48 rfl rfl ?_
      refine mv_schC (i := 13) (v := 115) d_TrustDeskModel_isWord_49 lV_TrustDeskModel_220 (by decide) rfl (by decide) (by decide) (Nat.le_of_ble_eq_true rfl) (by decide) ?_
      have := mz_hi v13
      refine mv_icmp_eqZ (tgt := 57) (a := v13.toInt) (b := 115) d_TrustDeskModel_isWord_52 (by decide) rfl (by decide) (fun b16 => ?_) (fun b16 => ?_)
      · refine mv_iinc (v := 1) (lv' := [(2, .int 1), (0, .ref o0), (1, .ref 23)]) d_TrustDeskModel_isWord_57 rfl (by decide) (by decide) rfl ?_
        refine mv_goto (tgt := 28) d_TrustDeskModel_isWord_60 (by decide) ?_
        refine mv_iload_n d_TrustDeskModel_isWord_28 rfl rfl ?_
        refine mv_aload_n d_TrustDeskModel_isWord_29 rfl rfl ?_
        refine mv_slenK (i := 13) (v := 4) d_TrustDeskModel_isWord_30 lV_TrustDeskModel_214 (by decide) rfl (by decide) (Nat.le_of_ble_eq_true rfl) ?_
        refine mv_icmp_ge_f (tgt := 63) d_TrustDeskModel_isWord_33 (by decide) (by decide) ?_
        refine mv_aload_n d_TrustDeskModel_isWord_36 rfl rfl ?_
        refine tr_getK (k := 13) q10 d_TrustDeskModel_isWord_37 f_TrustDeskModel_44_13 ?_
        refine mv_aload_n d_TrustDeskModel_isWord_40 rfl rfl ?_
        refine tr_getK (k := 16) q6 d_TrustDeskModel_isWord_41 f_TrustDeskModel_195_13 ?_
        refine mv_iload_n d_TrustDeskModel_isWord_44 rfl rfl ?_
        refine mv_iadd d_TrustDeskModel_isWord_45 ?_
        have b17 : (v7 + 1 : Int32).toInt = (v7.toInt + 1) := mz_add2 rfl (by decide) (by have := yR.1 15 _ _ rfl; have := yR.1 16 _ _ rfl; have := yR.1 19 _ _ rfl; omega) (by have := yR.1 15 _ _ rfl; have := yR.1 16 _ _ rfl; have := yR.1 19 _ _ rfl; omega)
        refine tr_baldR (o := o0) (k := 13) I0 q10 t_a11 (by decide) d_TrustDeskModel_isWord_46 (vp_in_iff.mpr (by have := yR.1 15 _ _ rfl; have := yR.1 16 _ _ rfl; have := yR.1 19 _ _ rfl; omega)) (fun v18 e19 => ?_)
        have := yR.a (k := 13) rfl ((v7 + 1) : Int32).toNatClampNeg
        have h20 : (v7 + 1).toNatClampNeg = (rv M0 o0 16).toNat + 1 := by have := mz_nat9 (i := (v7 + 1)) (by have := yR.1 15 _ _ rfl; have := yR.1 16 _ _ rfl; have := yR.1 19 _ _ rfl; omega); have := yR.1 15 _ _ rfl; have := yR.1 16 _ _ rfl; have := yR.1 19 _ _ rfl; omega
        have : v18.toInt = ra M0 o0 13 ((rv M0 o0 16).toNat + 1) := by rw [e19, h20]
        refine mv_aload_n d_TrustDeskModel_isWord_47 rfl rfl ?_
        refine mv_iload_n d_TrustDeskModel_isWord_48 rfl rfl ?_
        refine mv_schC (i := 13) (v := 97) d_TrustDeskModel_isWord_49 lV_TrustDeskModel_220 (by decide) rfl (by decide) (by decide) (Nat.le_of_ble_eq_true rfl) (by decide) ?_
        have := mz_hi v18
        refine mv_icmp_eqZ (tgt := 57) (a := v18.toInt) (b := 97) d_TrustDeskModel_isWord_52 (by decide) rfl (by decide) (fun b21 => ?_) (fun b21 => ?_)
        · refine mv_iinc (v := 2) (lv' := [(2, .int 2), (0, .ref o0), (1, .ref 23)]) d_TrustDeskModel_isWord_57 rfl (by decide) (by decide) rfl ?_
          refine mv_goto (tgt := 28) d_TrustDeskModel_isWord_60 (by decide) ?_
          refine mv_iload_n d_TrustDeskModel_isWord_28 rfl rfl ?_
          refine mv_aload_n d_TrustDeskModel_isWord_29 rfl rfl ?_
          refine mv_slenK (i := 13) (v := 4) d_TrustDeskModel_isWord_30 lV_TrustDeskModel_214 (by decide) rfl (by decide) (Nat.le_of_ble_eq_true rfl) ?_
          refine mv_icmp_ge_f (tgt := 63) d_TrustDeskModel_isWord_33 (by decide) (by decide) ?_
          refine mv_aload_n d_TrustDeskModel_isWord_36 rfl rfl ?_
          refine tr_getK (k := 13) q10 d_TrustDeskModel_isWord_37 f_TrustDeskModel_44_13 ?_
          refine mv_aload_n d_TrustDeskModel_isWord_40 rfl rfl ?_
          refine tr_getK (k := 16) q6 d_TrustDeskModel_isWord_41 f_TrustDeskModel_195_13 ?_
          refine mv_iload_n d_TrustDeskModel_isWord_44 rfl rfl ?_
          refine mv_iadd d_TrustDeskModel_isWord_45 ?_
          have b22 : (v7 + 2 : Int32).toInt = (v7.toInt + 2) := mz_add2 rfl (by decide) (by have := yR.1 15 _ _ rfl; have := yR.1 16 _ _ rfl; have := yR.1 19 _ _ rfl; omega) (by have := yR.1 15 _ _ rfl; have := yR.1 16 _ _ rfl; have := yR.1 19 _ _ rfl; omega)
          refine tr_baldR (o := o0) (k := 13) I0 q10 t_a11 (by decide) d_TrustDeskModel_isWord_46 (vp_in_iff.mpr (by have := yR.1 15 _ _ rfl; have := yR.1 16 _ _ rfl; have := yR.1 19 _ _ rfl; omega)) (fun v23 e24 => ?_)
          have := yR.a (k := 13) rfl ((v7 + 2) : Int32).toNatClampNeg
          have h25 : (v7 + 2).toNatClampNeg = (rv M0 o0 16).toNat + 2 := by have := mz_nat9 (i := (v7 + 2)) (by have := yR.1 15 _ _ rfl; have := yR.1 16 _ _ rfl; have := yR.1 19 _ _ rfl; omega); have := yR.1 15 _ _ rfl; have := yR.1 16 _ _ rfl; have := yR.1 19 _ _ rfl; omega
          have : v23.toInt = ra M0 o0 13 ((rv M0 o0 16).toNat + 2) := by rw [e24, h25]
          refine mv_aload_n d_TrustDeskModel_isWord_47 rfl rfl ?_
          refine mv_iload_n d_TrustDeskModel_isWord_48 rfl rfl ?_
          refine mv_schC (i := 13) (v := 108) d_TrustDeskModel_isWord_49 lV_TrustDeskModel_220 (by decide) rfl (by decide) (by decide) (Nat.le_of_ble_eq_true rfl) (by decide) ?_
          have := mz_hi v23
          refine mv_icmp_eqZ (tgt := 57) (a := v23.toInt) (b := 108) d_TrustDeskModel_isWord_52 (by decide) rfl (by decide) (fun b26 => ?_) (fun b26 => ?_)
          · refine mv_iinc (v := 3) (lv' := [(2, .int 3), (0, .ref o0), (1, .ref 23)]) d_TrustDeskModel_isWord_57 rfl (by decide) (by decide) rfl ?_
            refine mv_goto (tgt := 28) d_TrustDeskModel_isWord_60 (by decide) ?_
            refine mv_iload_n d_TrustDeskModel_isWord_28 rfl rfl ?_
            refine mv_aload_n d_TrustDeskModel_isWord_29 rfl rfl ?_
            refine mv_slenK (i := 13) (v := 4) d_TrustDeskModel_isWord_30 lV_TrustDeskModel_214 (by decide) rfl (by decide) (Nat.le_of_ble_eq_true rfl) ?_
            refine mv_icmp_ge_f (tgt := 63) d_TrustDeskModel_isWord_33 (by decide) (by decide) ?_
            refine mv_aload_n d_TrustDeskModel_isWord_36 rfl rfl ?_
            refine tr_getK (k := 13) q10 d_TrustDeskModel_isWord_37 f_TrustDeskModel_44_13 ?_
            refine mv_aload_n d_TrustDeskModel_isWord_40 rfl rfl ?_
            refine tr_getK (k := 16) q6 d_TrustDeskModel_isWord_41 f_TrustDeskModel_195_13 ?_
            refine mv_iload_n d_TrustDeskModel_isWord_44 rfl rfl ?_
            refine mv_iadd d_TrustDeskModel_isWord_45 ?_
            have b27 : (v7 + 3 : Int32).toInt = (v7.toInt + 3) := mz_add2 rfl (by decide) (by have := yR.1 15 _ _ rfl; have := yR.1 16 _ _ rfl; have := yR.1 19 _ _ rfl; omega) (by have := yR.1 15 _ _ rfl; have := yR.1 16 _ _ rfl; have := yR.1 19 _ _ rfl; omega)
            refine tr_baldR (o := o0) (k := 13) I0 q10 t_a11 (by decide) d_TrustDeskModel_isWord_46 (vp_in_iff.mpr (by have := yR.1 15 _ _ rfl; have := yR.1 16 _ _ rfl; have := yR.1 19 _ _ rfl; omega)) (fun v28 e29 => ?_)
            have := yR.a (k := 13) rfl ((v7 + 3) : Int32).toNatClampNeg
            have h30 : (v7 + 3).toNatClampNeg = (rv M0 o0 16).toNat + 3 := by have := mz_nat9 (i := (v7 + 3)) (by have := yR.1 15 _ _ rfl; have := yR.1 16 _ _ rfl; have := yR.1 19 _ _ rfl; omega); have := yR.1 15 _ _ rfl; have := yR.1 16 _ _ rfl; have := yR.1 19 _ _ rfl; omega
            have : v28.toInt = ra M0 o0 13 ((rv M0 o0 16).toNat + 3) := by rw [e29, h30]
            refine mv_aload_n d_TrustDeskModel_isWord_47 rfl rfl ?_
            refine mv_iload_n d_TrustDeskModel_isWord_48 rfl rfl ?_
            refine mv_schC (i := 13) (v := 101) d_TrustDeskModel_isWord_49 lV_TrustDeskModel_220 (by decide) rfl (by decide) (by decide) (Nat.le_of_ble_eq_true rfl) (by decide) ?_
            have := mz_hi v28
            refine mv_icmp_eqZ (tgt := 57) (a := v28.toInt) (b := 101) d_TrustDeskModel_isWord_52 (by decide) rfl (by decide) (fun b31 => ?_) (fun b31 => ?_)
            · refine mv_iinc (v := 4) (lv' := [(2, .int 4), (0, .ref o0), (1, .ref 23)]) d_TrustDeskModel_isWord_57 rfl (by decide) (by decide) rfl ?_
              refine mv_goto (tgt := 28) d_TrustDeskModel_isWord_60 (by decide) ?_
              refine mv_iload_n d_TrustDeskModel_isWord_28 rfl rfl ?_
              refine mv_aload_n d_TrustDeskModel_isWord_29 rfl rfl ?_
              refine mv_slenK (i := 13) (v := 4) d_TrustDeskModel_isWord_30 lV_TrustDeskModel_214 (by decide) rfl (by decide) (Nat.le_of_ble_eq_true rfl) ?_
              refine mv_icmp_ge_t (tgt := 63) d_TrustDeskModel_isWord_33 (by decide) (by decide) ?_
              refine mv_iconst (v := 1) d_TrustDeskModel_isWord_63 (by decide) ?_
              exact mv_iret d_TrustDeskModel_isWord_64 rfl (by decide) ⟨_, I0, _, rfl, by decide, by decide, yR, (fun _ => by have := yR.1 15 _ _ rfl; have := yR.1 16 _ _ rfl; have := yR.1 19 _ _ rfl; omega), (fun _ => ⟨by have := yR.1 15 _ _ rfl; have := yR.1 16 _ _ rfl; have := yR.1 19 _ _ rfl; omega, by have := yR.1 15 _ _ rfl; have := yR.1 16 _ _ rfl; have := yR.1 19 _ _ rfl; omega, by have := yR.1 15 _ _ rfl; have := yR.1 16 _ _ rfl; have := yR.1 19 _ _ rfl; omega, by have := yR.1 15 _ _ rfl; have := yR.1 16 _ _ rfl; have := yR.1 19 _ _ rfl; omega, by have := yR.1 15 _ _ rfl; have := yR.1 16 _ _ rfl; have := yR.1 19 _ _ rfl; omega, by have := yR.1 15 _ _ rfl; have := yR.1 16 _ _ rfl; have := yR.1 19 _ _ rfl; omega⟩), (fun h => absurd h (by decide))⟩
            · refine mv_iconst (v := 0) d_TrustDeskModel_isWord_55 (by decide) ?_
              exact mv_iret d_TrustDeskModel_isWord_56 rfl (by decide) ⟨_, I0, _, rfl, by decide, by decide, yR, (fun h => absurd h (by decide)), (fun h => absurd h (by decide)), (fun _ h => by obtain ⟨h1, h2, h3, h4, h5, h6⟩ := h; have := yR.1 15 _ _ rfl; have := yR.1 16 _ _ rfl; have := yR.1 19 _ _ rfl; omega)⟩
          · refine mv_iconst (v := 0) d_TrustDeskModel_isWord_55 (by decide) ?_
            exact mv_iret d_TrustDeskModel_isWord_56 rfl (by decide) ⟨_, I0, _, rfl, by decide, by decide, yR, (fun h => absurd h (by decide)), (fun h => absurd h (by decide)), (fun _ h => by obtain ⟨h1, h2, h3, h4, h5, h6⟩ := h; have := yR.1 15 _ _ rfl; have := yR.1 16 _ _ rfl; have := yR.1 19 _ _ rfl; omega)⟩
        · refine mv_iconst (v := 0) d_TrustDeskModel_isWord_55 (by decide) ?_
          exact mv_iret d_TrustDeskModel_isWord_56 rfl (by decide) ⟨_, I0, _, rfl, by decide, by decide, yR, (fun h => absurd h (by decide)), (fun h => absurd h (by decide)), (fun _ h => by obtain ⟨h1, h2, h3, h4, h5, h6⟩ := h; have := yR.1 15 _ _ rfl; have := yR.1 16 _ _ rfl; have := yR.1 19 _ _ rfl; omega)⟩
      · refine mv_iconst (v := 0) d_TrustDeskModel_isWord_55 (by decide) ?_
        exact mv_iret d_TrustDeskModel_isWord_56 rfl (by decide) ⟨_, I0, _, rfl, by decide, by decide, yR, (fun h => absurd h (by decide)), (fun h => absurd h (by decide)), (fun _ h => by obtain ⟨h1, h2, h3, h4, h5, h6⟩ := h; have := yR.1 15 _ _ rfl; have := yR.1 16 _ _ rfl; have := yR.1 19 _ _ rfl; omega)⟩
    · refine mv_iconst (v := 0) d_TrustDeskModel_isWord_24 (by decide) ?_
      exact mv_iret d_TrustDeskModel_isWord_25 rfl (by decide) ⟨_, I0, _, rfl, by decide, by decide, yR, (fun h => absurd h (by decide)), (fun h => absurd h (by decide)), (fun _ h => by obtain ⟨h1, h2, h3, h4, h5, h6⟩ := h; have := yR.1 15 _ _ rfl; have := yR.1 16 _ _ rfl; have := yR.1 19 _ _ rfl; omega)⟩
theorem d_TrustDeskModel_readRule_95 : decode kY_TrustDeskModel_readRule.2.1 95 = .ok (.ifCond .eq 7, 3) := by decide +kernel
theorem d_TrustDeskModel_readRule_102 : decode kY_TrustDeskModel_readRule.2.1 102 = .ok (.aload_n 0, 1) := by decide +kernel
theorem d_TrustDeskModel_readRule_103 : decode kY_TrustDeskModel_readRule.2.1 103 = .ok (.ldc_w 374, 3) := by decide +kernel
theorem d_TrustDeskModel_readRule_106 : decode kY_TrustDeskModel_readRule.2.1 106 = .ok (.invokevirtual 244, 3) := by decide +kernel
def w_TrustDeskModel_isWord_s1_24_x : List Nat := []
set_option maxHeartbeats 100000000 in theorem tc_TrustDeskModel_isWord_s1_24_x {g : mj_G} {l : Launch} {d : Nat} {T0 : tm_H} {M0 : mj_M} {n0 x9 : Nat} {o0 : Nat} (h_o0 : T0 o0 = some (0, 13, 0)) (yR : rI M0 o0) (I0 : tm_I tm_FT (tm_in w_TrustDeskModel_isWord_s1_24_x) x9 T0 M0 n0 T0 M0 n0) : mj_Met g l kY_TrustDeskModel_isWord (d + 4) [.ref o0, .ref 24] M0 n0 0 0 (tm_Q tm_FT (tm_in w_TrustDeskModel_isWord_s1_24_x) x9 T0 M0 n0 (fun r _ M => ∃ v : Int32, r = some (.int v) ∧ 0 ≤ v.toInt ∧ v.toInt ≤ 1 ∧ rI M o0 ∧ (v.toInt = 1 → rv M0 o0 17 = 3) ∧ (v.toInt = 1 → rv M0 o0 17 = 3 ∧ rv M0 o0 15 - rv M0 o0 16 = 6 ∧ ra M0 o0 13 ((rv M0 o0 16).toNat + 0) = 115 ∧ ra M0 o0 13 ((rv M0 o0 16).toNat + 1) = 116 ∧ ra M0 o0 13 ((rv M0 o0 16).toNat + 2) = 114 ∧ ra M0 o0 13 ((rv M0 o0 16).toNat + 3) = 105 ∧ ra M0 o0 13 ((rv M0 o0 16).toNat + 4) = 107 ∧ ra M0 o0 13 ((rv M0 o0 16).toNat + 5) = 101) ∧ (v.toInt = 0 → ¬ (rv M0 o0 17 = 3 ∧ rv M0 o0 15 - rv M0 o0 16 = 6 ∧ ra M0 o0 13 ((rv M0 o0 16).toNat + 0) = 115 ∧ ra M0 o0 13 ((rv M0 o0 16).toNat + 1) = 116 ∧ ra M0 o0 13 ((rv M0 o0 16).toNat + 2) = 114 ∧ ra M0 o0 13 ((rv M0 o0 16).toNat + 3) = 105 ∧ ra M0 o0 13 ((rv M0 o0 16).toNat + 4) = 107 ∧ ra M0 o0 13 ((rv M0 o0 16).toNat + 5) = 101)))) := by
  refine mj_enter (by decide) (Nat.le_of_ble_eq_true rfl) ?_
  refine mv_aload_n d_TrustDeskModel_isWord_0 rfl rfl ?_
  obtain ⟨v2, q1⟩ := tm_atI I0 h_o0 (k := 17) rfl
  refine tr_getK q1 d_TrustDeskModel_isWord_1 f_TrustDeskModel_198_13 ?_
  have := tm_rv q1
  refine mv_iconst (v := 3) d_TrustDeskModel_isWord_4 (by decide) ?_
  have := mz_hi v2
  refine mv_icmp_neZ (tgt := 24) (a := v2.toInt) (b := 3) d_TrustDeskModel_isWord_5 (by decide) rfl (by decide) (fun b3 => ?_) (fun b3 => ?_)
  · refine mv_iconst (v := 0) d_TrustDeskModel_isWord_24 (by decide) ?_
    exact mv_iret d_TrustDeskModel_isWord_25 rfl (by decide) ⟨_, I0, _, rfl, by decide, by decide, yR, (fun h => absurd h (by decide)), (fun h => absurd h (by decide)), (fun _ h => by obtain ⟨h1, h2, h3, h4, h5, h6, h7, h8⟩ := h; have := yR.1 15 _ _ rfl; have := yR.1 16 _ _ rfl; have := yR.1 19 _ _ rfl; omega)⟩
  · refine mv_aload_n d_TrustDeskModel_isWord_8 rfl rfl ?_
    obtain ⟨v5, q4⟩ := tm_atI I0 h_o0 (k := 15) rfl
    refine tr_getK q4 d_TrustDeskModel_isWord_9 f_TrustDeskModel_192_13 ?_
    have := yR.f (k := 15) q4 rfl
    have := tm_rv q4
    refine mv_aload_n d_TrustDeskModel_isWord_12 rfl rfl ?_
    obtain ⟨v7, q6⟩ := tm_atI I0 h_o0 (k := 16) rfl
    refine tr_getK q6 d_TrustDeskModel_isWord_13 f_TrustDeskModel_195_13 ?_
    have := yR.f (k := 16) q6 rfl
    have := tm_rv q6
    refine mv_isub d_TrustDeskModel_isWord_16 ?_
    refine mv_aload_n d_TrustDeskModel_isWord_17 rfl rfl ?_
    refine mv_slenK (i := 14) (v := 6) d_TrustDeskModel_isWord_18 lV_TrustDeskModel_214 (by decide) rfl (by decide) (Nat.le_of_ble_eq_true rfl) ?_
    have b8 : (v5 - v7 : Int32).toInt = (v5.toInt - v7.toInt) := mz_sub2 rfl rfl (by have := yR.1 15 _ _ rfl; have := yR.1 16 _ _ rfl; have := yR.1 19 _ _ rfl; omega) (by have := yR.1 15 _ _ rfl; have := yR.1 16 _ _ rfl; have := yR.1 19 _ _ rfl; omega)
    have := mz_hi (v5 - v7)
    refine mv_icmp_eqZ (tgt := 26) (a := (v5 - v7).toInt) (b := 6) d_TrustDeskModel_isWord_21 (by decide) rfl (by decide) (fun b9 => ?_) (fun b9 => ?_)
    · refine mv_iconst (v := 0) d_TrustDeskModel_isWord_26 (by decide) ?_
      refine mv_istore_n (lv' := [(2, .int 0), (0, .ref o0), (1, .ref 24)]) d_TrustDeskModel_isWord_27 rfl (by decide) rfl ?_
      refine mv_iload_n d_TrustDeskModel_isWord_28 rfl rfl ?_
      refine mv_aload_n d_TrustDeskModel_isWord_29 rfl rfl ?_
      refine mv_slenK (i := 14) (v := 6) d_TrustDeskModel_isWord_30 lV_TrustDeskModel_214 (by decide) rfl (by decide) (Nat.le_of_ble_eq_true rfl) ?_
      refine mv_icmp_ge_f (tgt := 63) d_TrustDeskModel_isWord_33 (by decide) (by decide) ?_
      refine mv_aload_n d_TrustDeskModel_isWord_36 rfl rfl ?_
      obtain ⟨a11, q10, t_a11⟩ := tm_atR I0 h_o0 (k := 13) rfl
      refine tr_getK q10 d_TrustDeskModel_isWord_37 f_TrustDeskModel_44_13 ?_
      refine mv_aload_n d_TrustDeskModel_isWord_40 rfl rfl ?_
      refine tr_getK (k := 16) q6 d_TrustDeskModel_isWord_41 f_TrustDeskModel_195_13 ?_
      refine mv_iload_n d_TrustDeskModel_isWord_44 rfl rfl ?_
      refine mv_iadd d_TrustDeskModel_isWord_45 ?_
      have b12 : (v7 + 0 : Int32).toInt = (v7.toInt + 0) := mz_add2 rfl (by decide) (by have := yR.1 15 _ _ rfl; have := yR.1 16 _ _ rfl; have := yR.1 19 _ _ rfl; omega) (by have := yR.1 15 _ _ rfl; have := yR.1 16 _ _ rfl; have := yR.1 19 _ _ rfl; omega)
      refine tr_baldR (o := o0) (k := 13) I0 q10 t_a11 (by decide) d_TrustDeskModel_isWord_46 (vp_in_iff.mpr (by have := yR.1 15 _ _ rfl; have := yR.1 16 _ _ rfl; have := yR.1 19 _ _ rfl; omega)) (fun v13 e14 => ?_)
      have := yR.a (k := 13) rfl ((v7 + 0) : Int32).toNatClampNeg
      have h15 : (v7 + 0).toNatClampNeg = (rv M0 o0 16).toNat + 0 := by have := mz_nat9 (i := (v7 + 0)) (by have := yR.1 15 _ _ rfl; have := yR.1 16 _ _ rfl; have := yR.1 19 _ _ rfl; omega); have := yR.1 15 _ _ rfl; have := yR.1 16 _ _ rfl; have := yR.1 19 _ _ rfl; omega
      have : v13.toInt = ra M0 o0 13 ((rv M0 o0 16).toNat + 0) := by rw [e14, h15]
      refine mv_aload_n d_TrustDeskModel_isWord_47 rfl rfl ?_
      refine mv_iload_n d_TrustDeskModel_isWord_48 rfl rfl ?_
      refine mv_schC (i := 14) (v := 115) d_TrustDeskModel_isWord_49 lV_TrustDeskModel_220 (by decide) rfl (by decide) (by decide) (Nat.le_of_ble_eq_true rfl) (by decide) ?_
      have := mz_hi v13
      refine mv_icmp_eqZ (tgt := 57) (a := v13.toInt) (b := 115) d_TrustDeskModel_isWord_52 (by decide) rfl (by decide) (fun b16 => ?_) (fun b16 => ?_)
      · refine mv_iinc (v := 1) (lv' := [(2, .int 1), (0, .ref o0), (1, .ref 24)]) d_TrustDeskModel_isWord_57 rfl (by decide) (by decide) rfl ?_
        refine mv_goto (tgt := 28) d_TrustDeskModel_isWord_60 (by decide) ?_
        refine mv_iload_n d_TrustDeskModel_isWord_28 rfl rfl ?_
        refine mv_aload_n d_TrustDeskModel_isWord_29 rfl rfl ?_
        refine mv_slenK (i := 14) (v := 6) d_TrustDeskModel_isWord_30 lV_TrustDeskModel_214 (by decide) rfl (by decide) (Nat.le_of_ble_eq_true rfl) ?_
        refine mv_icmp_ge_f (tgt := 63) d_TrustDeskModel_isWord_33 (by decide) (by decide) ?_
        refine mv_aload_n d_TrustDeskModel_isWord_36 rfl rfl ?_
        refine tr_getK (k := 13) q10 d_TrustDeskModel_isWord_37 f_TrustDeskModel_44_13 ?_
        refine mv_aload_n d_TrustDeskModel_isWord_40 rfl rfl ?_
        refine tr_getK (k := 16) q6 d_TrustDeskModel_isWord_41 f_TrustDeskModel_195_13 ?_
        refine mv_iload_n d_TrustDeskModel_isWord_44 rfl rfl ?_
        refine mv_iadd d_TrustDeskModel_isWord_45 ?_
        have b17 : (v7 + 1 : Int32).toInt = (v7.toInt + 1) := mz_add2 rfl (by decide) (by have := yR.1 15 _ _ rfl; have := yR.1 16 _ _ rfl; have := yR.1 19 _ _ rfl; omega) (by have := yR.1 15 _ _ rfl; have := yR.1 16 _ _ rfl; have := yR.1 19 _ _ rfl; omega)
        refine tr_baldR (o := o0) (k := 13) I0 q10 t_a11 (by decide) d_TrustDeskModel_isWord_46 (vp_in_iff.mpr (by have := yR.1 15 _ _ rfl; have := yR.1 16 _ _ rfl; have := yR.1 19 _ _ rfl; omega)) (fun v18 e19 => ?_)
        have := yR.a (k := 13) rfl ((v7 + 1) : Int32).toNatClampNeg
        have h20 : (v7 + 1).toNatClampNeg = (rv M0 o0 16).toNat + 1 := by have := mz_nat9 (i := (v7 + 1)) (by have := yR.1 15 _ _ rfl; have := yR.1 16 _ _ rfl; have := yR.1 19 _ _ rfl; omega); have := yR.1 15 _ _ rfl; have := yR.1 16 _ _ rfl; have := yR.1 19 _ _ rfl; omega
        have : v18.toInt = ra M0 o0 13 ((rv M0 o0 16).toNat + 1) := by rw [e19, h20]
        refine mv_aload_n d_TrustDeskModel_isWord_47 rfl rfl ?_
        refine mv_iload_n d_TrustDeskModel_isWord_48 rfl rfl ?_
        refine mv_schC (i := 14) (v := 116) d_TrustDeskModel_isWord_49 lV_TrustDeskModel_220 (by decide) rfl (by decide) (by decide) (Nat.le_of_ble_eq_true rfl) (by decide) ?_
        have := mz_hi v18
        refine mv_icmp_eqZ (tgt := 57) (a := v18.toInt) (b := 116) d_TrustDeskModel_isWord_52 (by decide) rfl (by decide) (fun b21 => ?_) (fun b21 => ?_)
        · refine mv_iinc (v := 2) (lv' := [(2, .int 2), (0, .ref o0), (1, .ref 24)]) d_TrustDeskModel_isWord_57 rfl (by decide) (by decide) rfl ?_
          refine mv_goto (tgt := 28) d_TrustDeskModel_isWord_60 (by decide) ?_
          refine mv_iload_n d_TrustDeskModel_isWord_28 rfl rfl ?_
          refine mv_aload_n d_TrustDeskModel_isWord_29 rfl rfl ?_
          refine mv_slenK (i := 14) (v := 6) d_TrustDeskModel_isWord_30 lV_TrustDeskModel_214 (by decide) rfl (by decide) (Nat.le_of_ble_eq_true rfl) ?_
          refine mv_icmp_ge_f (tgt := 63) d_TrustDeskModel_isWord_33 (by decide) (by decide) ?_
          refine mv_aload_n d_TrustDeskModel_isWord_36 rfl rfl ?_
          refine tr_getK (k := 13) q10 d_TrustDeskModel_isWord_37 f_TrustDeskModel_44_13 ?_
          refine mv_aload_n d_TrustDeskModel_isWord_40 rfl rfl ?_
          refine tr_getK (k := 16) q6 d_TrustDeskModel_isWord_41 f_TrustDeskModel_195_13 ?_
          refine mv_iload_n d_TrustDeskModel_isWord_44 rfl rfl ?_
          refine mv_iadd d_TrustDeskModel_isWord_45 ?_
          have b22 : (v7 + 2 : Int32).toInt = (v7.toInt + 2) := mz_add2 rfl (by decide) (by have := yR.1 15 _ _ rfl; have := yR.1 16 _ _ rfl; have := yR.1 19 _ _ rfl; omega) (by have := yR.1 15 _ _ rfl; have := yR.1 16 _ _ rfl; have := yR.1 19 _ _ rfl; omega)
          refine tr_baldR (o := o0) (k := 13) I0 q10 t_a11 (by decide) d_TrustDeskModel_isWord_46 (vp_in_iff.mpr (by have := yR.1 15 _ _ rfl; have := yR.1 16 _ _ rfl; have := yR.1 19 _ _ rfl; omega)) (fun v23 e24 => ?_)
          have := yR.a (k := 13) rfl ((v7 + 2) : Int32).toNatClampNeg
          have h25 : (v7 + 2).toNatClampNeg = (rv M0 o0 16).toNat + 2 := by have := mz_nat9 (i := (v7 + 2)) (by have := yR.1 15 _ _ rfl; have := yR.1 16 _ _ rfl; have := yR.1 19 _ _ rfl; omega); have := yR.1 15 _ _ rfl; have := yR.1 16 _ _ rfl; have := yR.1 19 _ _ rfl; omega
          have : v23.toInt = ra M0 o0 13 ((rv M0 o0 16).toNat + 2) := by rw [e24, h25]
          refine mv_aload_n d_TrustDeskModel_isWord_47 rfl rfl ?_
          refine mv_iload_n d_TrustDeskModel_isWord_48 rfl rfl ?_
          refine mv_schC (i := 14) (v := 114) d_TrustDeskModel_isWord_49 lV_TrustDeskModel_220 (by decide) rfl (by decide) (by decide) (Nat.le_of_ble_eq_true rfl) (by decide) ?_
          have := mz_hi v23
          refine mv_icmp_eqZ (tgt := 57) (a := v23.toInt) (b := 114) d_TrustDeskModel_isWord_52 (by decide) rfl (by decide) (fun b26 => ?_) (fun b26 => ?_)
          · refine mv_iinc (v := 3) (lv' := [(2, .int 3), (0, .ref o0), (1, .ref 24)]) d_TrustDeskModel_isWord_57 rfl (by decide) (by decide) rfl ?_
            refine mv_goto (tgt := 28) d_TrustDeskModel_isWord_60 (by decide) ?_
            refine mv_iload_n d_TrustDeskModel_isWord_28 rfl rfl ?_
            refine mv_aload_n d_TrustDeskModel_isWord_29 rfl rfl ?_
            refine mv_slenK (i := 14) (v := 6) d_TrustDeskModel_isWord_30 lV_TrustDeskModel_214 (by decide) rfl (by decide) (Nat.le_of_ble_eq_true rfl) ?_
            refine mv_icmp_ge_f (tgt := 63) d_TrustDeskModel_isWord_33 (by decide) (by decide) ?_
            refine mv_aload_n d_TrustDeskModel_isWord_36 rfl rfl ?_
            refine tr_getK (k := 13) q10 d_TrustDeskModel_isWord_37 f_TrustDeskModel_44_13 ?_
            refine mv_aload_n d_TrustDeskModel_isWord_40 rfl rfl ?_
            refine tr_getK (k := 16) q6 d_TrustDeskModel_isWord_41 f_TrustDeskModel_195_13 ?_
            refine mv_iload_n d_TrustDeskModel_isWord_44 rfl rfl ?_
            refine mv_iadd d_TrustDeskModel_isWord_45 ?_
            have b27 : (v7 + 3 : Int32).toInt = (v7.toInt + 3) := mz_add2 rfl (by decide) (by have := yR.1 15 _ _ rfl; have := yR.1 16 _ _ rfl; have := yR.1 19 _ _ rfl; omega) (by have := yR.1 15 _ _ rfl; have := yR.1 16 _ _ rfl; have := yR.1 19 _ _ rfl; omega)
            refine tr_baldR (o := o0) (k := 13) I0 q10 t_a11 (by decide) d_TrustDeskModel_isWord_46 (vp_in_iff.mpr (by have := yR.1 15 _ _ rfl; have := yR.1 16 _ _ rfl; have := yR.1 19 _ _ rfl; omega)) (fun v28 e29 => ?_)
            have := yR.a (k := 13) rfl ((v7 + 3) : Int32).toNatClampNeg
            have h30 : (v7 + 3).toNatClampNeg = (rv M0 o0 16).toNat + 3 := by have := mz_nat9 (i := (v7 + 3)) (by have := yR.1 15 _ _ rfl; have := yR.1 16 _ _ rfl; have := yR.1 19 _ _ rfl; omega); have := yR.1 15 _ _ rfl; have := yR.1 16 _ _ rfl; have := yR.1 19 _ _ rfl; omega
            have : v28.toInt = ra M0 o0 13 ((rv M0 o0 16).toNat + 3) := by rw [e29, h30]
            refine mv_aload_n d_TrustDeskModel_isWord_47 rfl rfl ?_
            refine mv_iload_n d_TrustDeskModel_isWord_48 rfl rfl ?_
            refine mv_schC (i := 14) (v := 105) d_TrustDeskModel_isWord_49 lV_TrustDeskModel_220 (by decide) rfl (by decide) (by decide) (Nat.le_of_ble_eq_true rfl) (by decide) ?_
            have := mz_hi v28
            refine mv_icmp_eqZ (tgt := 57) (a := v28.toInt) (b := 105) d_TrustDeskModel_isWord_52 (by decide) rfl (by decide) (fun b31 => ?_) (fun b31 => ?_)
            · refine mv_iinc (v := 4) (lv' := [(2, .int 4), (0, .ref o0), (1, .ref 24)]) d_TrustDeskModel_isWord_57 rfl (by decide) (by decide) rfl ?_
              refine mv_goto (tgt := 28) d_TrustDeskModel_isWord_60 (by decide) ?_
              refine mv_iload_n d_TrustDeskModel_isWord_28 rfl rfl ?_
              refine mv_aload_n d_TrustDeskModel_isWord_29 rfl rfl ?_
              refine mv_slenK (i := 14) (v := 6) d_TrustDeskModel_isWord_30 lV_TrustDeskModel_214 (by decide) rfl (by decide) (Nat.le_of_ble_eq_true rfl) ?_
              refine mv_icmp_ge_f (tgt := 63) d_TrustDeskModel_isWord_33 (by decide) (by decide) ?_
              refine mv_aload_n d_TrustDeskModel_isWord_36 rfl rfl ?_
              refine tr_getK (k := 13) q10 d_TrustDeskModel_isWord_37 f_TrustDeskModel_44_13 ?_
              refine mv_aload_n d_TrustDeskModel_isWord_40 rfl rfl ?_
              refine tr_getK (k := 16) q6 d_TrustDeskModel_isWord_41 f_TrustDeskModel_195_13 ?_
              refine mv_iload_n d_TrustDeskModel_isWord_44 rfl rfl ?_
              refine mv_iadd d_TrustDeskModel_isWord_45 ?_
              have b32 : (v7 + 4 : Int32).toInt = (v7.toInt + 4) := mz_add2 rfl (by decide) (by have := yR.1 15 _ _ rfl; have := yR.1 16 _ _ rfl; have := yR.1 19 _ _ rfl; omega) (by have := yR.1 15 _ _ rfl; have := yR.1 16 _ _ rfl; have := yR.1 19 _ _ rfl; omega)
              refine tr_baldR (o := o0) (k := 13) I0 q10 t_a11 (by decide) d_TrustDeskModel_isWord_46 (vp_in_iff.mpr (by have := yR.1 15 _ _ rfl; have := yR.1 16 _ _ rfl; have := yR.1 19 _ _ rfl; omega)) (fun v33 e34 => ?_)
              have := yR.a (k := 13) rfl ((v7 + 4) : Int32).toNatClampNeg
              have h35 : (v7 + 4).toNatClampNeg = (rv M0 o0 16).toNat + 4 := by have := mz_nat9 (i := (v7 + 4)) (by have := yR.1 15 _ _ rfl; have := yR.1 16 _ _ rfl; have := yR.1 19 _ _ rfl; omega); have := yR.1 15 _ _ rfl; have := yR.1 16 _ _ rfl; have := yR.1 19 _ _ rfl; omega
              have : v33.toInt = ra M0 o0 13 ((rv M0 o0 16).toNat + 4) := by rw [e34, h35]
              refine mv_aload_n d_TrustDeskModel_isWord_47 rfl rfl ?_
              refine mv_iload_n d_TrustDeskModel_isWord_48 rfl rfl ?_
              refine mv_schC (i := 14) (v := 107) d_TrustDeskModel_isWord_49 lV_TrustDeskModel_220 (by decide) rfl (by decide) (by decide) (Nat.le_of_ble_eq_true rfl) (by decide) ?_
              have := mz_hi v33
              refine mv_icmp_eqZ (tgt := 57) (a := v33.toInt) (b := 107) d_TrustDeskModel_isWord_52 (by decide) rfl (by decide) (fun b36 => ?_) (fun b36 => ?_)
              · refine mv_iinc (v := 5) (lv' := [(2, .int 5), (0, .ref o0), (1, .ref 24)]) d_TrustDeskModel_isWord_57 rfl (by decide) (by decide) rfl ?_
                refine mv_goto (tgt := 28) d_TrustDeskModel_isWord_60 (by decide) ?_
                refine mv_iload_n d_TrustDeskModel_isWord_28 rfl rfl ?_
                refine mv_aload_n d_TrustDeskModel_isWord_29 rfl rfl ?_
                refine mv_slenK (i := 14) (v := 6) d_TrustDeskModel_isWord_30 lV_TrustDeskModel_214 (by decide) rfl (by decide) (Nat.le_of_ble_eq_true rfl) ?_
                refine mv_icmp_ge_f (tgt := 63) d_TrustDeskModel_isWord_33 (by decide) (by decide) ?_
                refine mv_aload_n d_TrustDeskModel_isWord_36 rfl rfl ?_
                refine tr_getK (k := 13) q10 d_TrustDeskModel_isWord_37 f_TrustDeskModel_44_13 ?_
                refine mv_aload_n d_TrustDeskModel_isWord_40 rfl rfl ?_
                refine tr_getK (k := 16) q6 d_TrustDeskModel_isWord_41 f_TrustDeskModel_195_13 ?_
                refine mv_iload_n d_TrustDeskModel_isWord_44 rfl rfl ?_
                refine mv_iadd d_TrustDeskModel_isWord_45 ?_
                have b37 : (v7 + 5 : Int32).toInt = (v7.toInt + 5) := mz_add2 rfl (by decide) (by have := yR.1 15 _ _ rfl; have := yR.1 16 _ _ rfl; have := yR.1 19 _ _ rfl; omega) (by have := yR.1 15 _ _ rfl; have := yR.1 16 _ _ rfl; have := yR.1 19 _ _ rfl; omega)
                refine tr_baldR (o := o0) (k := 13) I0 q10 t_a11 (by decide) d_TrustDeskModel_isWord_46 (vp_in_iff.mpr (by have := yR.1 15 _ _ rfl; have := yR.1 16 _ _ rfl; have := yR.1 19 _ _ rfl; omega)) (fun v38 e39 => ?_)
                have := yR.a (k := 13) rfl ((v7 + 5) : Int32).toNatClampNeg
                have h40 : (v7 + 5).toNatClampNeg = (rv M0 o0 16).toNat + 5 := by have := mz_nat9 (i := (v7 + 5)) (by have := yR.1 15 _ _ rfl; have := yR.1 16 _ _ rfl; have := yR.1 19 _ _ rfl; omega); have := yR.1 15 _ _ rfl; have := yR.1 16 _ _ rfl; have := yR.1 19 _ _ rfl; omega
                have : v38.toInt = ra M0 o0 13 ((rv M0 o0 16).toNat + 5) := by rw [e39, h40]
                refine mv_aload_n d_TrustDeskModel_isWord_47 rfl rfl ?_
                refine mv_iload_n d_TrustDeskModel_isWord_48 rfl rfl ?_
                refine mv_schC (i := 14) (v := 101) d_TrustDeskModel_isWord_49 lV_TrustDeskModel_220 (by decide) rfl (by decide) (by decide) (Nat.le_of_ble_eq_true rfl) (by decide) ?_
                have := mz_hi v38
                refine mv_icmp_eqZ (tgt := 57) (a := v38.toInt) (b := 101) d_TrustDeskModel_isWord_52 (by decide) rfl (by decide) (fun b41 => ?_) (fun b41 => ?_)
                · refine mv_iinc (v := 6) (lv' := [(2, .int 6), (0, .ref o0), (1, .ref 24)]) d_TrustDeskModel_isWord_57 rfl (by decide) (by decide) rfl ?_
                  refine mv_goto (tgt := 28) d_TrustDeskModel_isWord_60 (by decide) ?_
                  refine mv_iload_n d_TrustDeskModel_isWord_28 rfl rfl ?_
                  refine mv_aload_n d_TrustDeskModel_isWord_29 rfl rfl ?_
                  refine mv_slenK (i := 14) (v := 6) d_TrustDeskModel_isWord_30 lV_TrustDeskModel_214 (by decide) rfl (by decide) (Nat.le_of_ble_eq_true rfl) ?_
                  refine mv_icmp_ge_t (tgt := 63) d_TrustDeskModel_isWord_33 (by decide) (by decide) ?_
                  refine mv_iconst (v := 1) d_TrustDeskModel_isWord_63 (by decide) ?_
                  exact mv_iret d_TrustDeskModel_isWord_64 rfl (by decide) ⟨_, I0, _, rfl, by decide, by decide, yR, (fun _ => by have := yR.1 15 _ _ rfl; have := yR.1 16 _ _ rfl; have := yR.1 19 _ _ rfl; omega), (fun _ => ⟨by have := yR.1 15 _ _ rfl; have := yR.1 16 _ _ rfl; have := yR.1 19 _ _ rfl; omega, by have := yR.1 15 _ _ rfl; have := yR.1 16 _ _ rfl; have := yR.1 19 _ _ rfl; omega, by have := yR.1 15 _ _ rfl; have := yR.1 16 _ _ rfl; have := yR.1 19 _ _ rfl; omega, by have := yR.1 15 _ _ rfl; have := yR.1 16 _ _ rfl; have := yR.1 19 _ _ rfl; omega, by have := yR.1 15 _ _ rfl; have := yR.1 16 _ _ rfl; have := yR.1 19 _ _ rfl; omega, by have := yR.1 15 _ _ rfl; have := yR.1 16 _ _ rfl; have := yR.1 19 _ _ rfl; omega, by have := yR.1 15 _ _ rfl; have := yR.1 16 _ _ rfl; have := yR.1 19 _ _ rfl; omega, by have := yR.1 15 _ _ rfl; have := yR.1 16 _ _ rfl; have := yR.1 19 _ _ rfl; omega⟩), (fun h => absurd h (by decide))⟩
                · refine mv_iconst (v := 0) d_TrustDeskModel_isWord_55 (by decide) ?_
                  exact mv_iret d_TrustDeskModel_isWord_56 rfl (by decide) ⟨_, I0, _, rfl, by decide, by decide, yR, (fun h => absurd h (by decide)), (fun h => absurd h (by decide)), (fun _ h => by obtain ⟨h1, h2, h3, h4, h5, h6, h7, h8⟩ := h; have := yR.1 15 _ _ rfl; have := yR.1 16 _ _ rfl; have := yR.1 19 _ _ rfl; omega)⟩
              · refine mv_iconst (v := 0) d_TrustDeskModel_isWord_55 (by decide) ?_
                exact mv_iret d_TrustDeskModel_isWord_56 rfl (by decide) ⟨_, I0, _, rfl, by decide, by decide, yR, (fun h => absurd h (by decide)), (fun h => absurd h (by decide)), (fun _ h => by obtain ⟨h1, h2, h3, h4, h5, h6, h7, h8⟩ := h; have := yR.1 15 _ _ rfl; have := yR.1 16 _ _ rfl; have := yR.1 19 _ _ rfl; omega)⟩
            · refine mv_iconst (v := 0) d_TrustDeskModel_isWord_55 (by decide) ?_
              exact mv_iret d_TrustDeskModel_isWord_56 rfl (by decide) ⟨_, I0, _, rfl, by decide, by decide, yR, (fun h => absurd h (by decide)), (fun h => absurd h (by decide)), (fun _ h => by obtain ⟨h1, h2, h3, h4, h5, h6, h7, h8⟩ := h; have := yR.1 15 _ _ rfl; have := yR.1 16 _ _ rfl; have := yR.1 19 _ _ rfl; omega)⟩
          · refine mv_iconst (v := 0) d_TrustDeskModel_isWord_55 (by decide) ?_
            exact mv_iret d_TrustDeskModel_isWord_56 rfl (by decide) ⟨_, I0, _, rfl, by decide, by decide, yR, (fun h => absurd h (by decide)), (fun h => absurd h (by decide)), (fun _ h => by obtain ⟨h1, h2, h3, h4, h5, h6, h7, h8⟩ := h; have := yR.1 15 _ _ rfl; have := yR.1 16 _ _ rfl; have := yR.1 19 _ _ rfl; omega)⟩
        · refine mv_iconst (v := 0) d_TrustDeskModel_isWord_55 (by decide) ?_
          exact mv_iret d_TrustDeskModel_isWord_56 rfl (by decide) ⟨_, I0, _, rfl, by decide, by decide, yR, (fun h => absurd h (by decide)), (fun h => absurd h (by decide)), (fun _ h => by obtain ⟨h1, h2, h3, h4, h5, h6, h7, h8⟩ := h; have := yR.1 15 _ _ rfl; have := yR.1 16 _ _ rfl; have := yR.1 19 _ _ rfl; omega)⟩
      · refine mv_iconst (v := 0) d_TrustDeskModel_isWord_55 (by decide) ?_
        exact mv_iret d_TrustDeskModel_isWord_56 rfl (by decide) ⟨_, I0, _, rfl, by decide, by decide, yR, (fun h => absurd h (by decide)), (fun h => absurd h (by decide)), (fun _ h => by obtain ⟨h1, h2, h3, h4, h5, h6, h7, h8⟩ := h; have := yR.1 15 _ _ rfl; have := yR.1 16 _ _ rfl; have := yR.1 19 _ _ rfl; omega)⟩
    · refine mv_iconst (v := 0) d_TrustDeskModel_isWord_24 (by decide) ?_
      exact mv_iret d_TrustDeskModel_isWord_25 rfl (by decide) ⟨_, I0, _, rfl, by decide, by decide, yR, (fun h => absurd h (by decide)), (fun h => absurd h (by decide)), (fun _ h => by obtain ⟨h1, h2, h3, h4, h5, h6, h7, h8⟩ := h; have := yR.1 15 _ _ rfl; have := yR.1 16 _ _ rfl; have := yR.1 19 _ _ rfl; omega)⟩
theorem d_TrustDeskModel_readRule_109 : decode kY_TrustDeskModel_readRule.2.1 109 = .ok (.ifCond .eq 7, 3) := by decide +kernel
theorem d_TrustDeskModel_readRule_116 : decode kY_TrustDeskModel_readRule.2.1 116 = .ok (.iconst (-1), 1) := by decide +kernel
theorem d_TrustDeskModel_readRule_117 : decode kY_TrustDeskModel_readRule.2.1 117 = .ok (.iastore, 1) := by decide +kernel
theorem d_TrustDeskModel_readRule_118 : decode kY_TrustDeskModel_readRule.2.1 118 = .ok (.aload_n 0, 1) := by decide +kernel
theorem d_TrustDeskModel_readRule_119 : decode kY_TrustDeskModel_readRule.2.1 119 = .ok (.getfield 29, 3) := by decide +kernel
theorem d_TrustDeskModel_readRule_122 : decode kY_TrustDeskModel_readRule.2.1 122 = .ok (.iload_n 2, 1) := by decide +kernel
theorem d_TrustDeskModel_readRule_123 : decode kY_TrustDeskModel_readRule.2.1 123 = .ok (.iaload, 1) := by decide +kernel
theorem d_TrustDeskModel_readRule_124 : decode kY_TrustDeskModel_readRule.2.1 124 = .ok (.iconst (-1), 1) := by decide +kernel
theorem d_TrustDeskModel_readRule_125 : decode kY_TrustDeskModel_readRule.2.1 125 = .ok (.if_icmp .ne 8, 3) := by decide +kernel
theorem d_TrustDeskModel_readRule_128 : decode kY_TrustDeskModel_readRule.2.1 128 = .ok (.aload_n 0, 1) := by decide +kernel
theorem d_TrustDeskModel_readRule_129 : decode kY_TrustDeskModel_readRule.2.1 129 = .ok (.iconst 1, 1) := by decide +kernel
theorem d_TrustDeskModel_readRule_130 : decode kY_TrustDeskModel_readRule.2.1 130 = .ok (.invokevirtual 240, 3) := by decide +kernel
theorem d_TrustDeskModel_readRule_133 : decode kY_TrustDeskModel_readRule.2.1 133 = .ok (.aload_n 0, 1) := by decide +kernel
theorem d_TrustDeskModel_readRule_134 : decode kY_TrustDeskModel_readRule.2.1 134 = .ok (.invokevirtual 230, 3) := by decide +kernel
theorem d_TrustDeskModel_readRule_137 : decode kY_TrustDeskModel_readRule.2.1 137 = .ok (.ifCond .eq 7, 3) := by decide +kernel
theorem d_TrustDeskModel_readRule_144 : decode kY_TrustDeskModel_readRule.2.1 144 = .ok (.aload_n 0, 1) := by decide +kernel
theorem d_TrustDeskModel_readRule_145 : decode kY_TrustDeskModel_readRule.2.1 145 = .ok (.ldc_w 333, 3) := by decide +kernel
theorem d_TrustDeskModel_readRule_148 : decode kY_TrustDeskModel_readRule.2.1 148 = .ok (.invokevirtual 329, 3) := by decide +kernel
theorem d_TrustDeskModel_readRule_151 : decode kY_TrustDeskModel_readRule.2.1 151 = .ok (.aload_n 0, 1) := by decide +kernel
theorem d_TrustDeskModel_readRule_152 : decode kY_TrustDeskModel_readRule.2.1 152 = .ok (.getfield 38, 3) := by decide +kernel
theorem d_TrustDeskModel_readRule_155 : decode kY_TrustDeskModel_readRule.2.1 155 = .ok (.iload_n 2, 1) := by decide +kernel
theorem d_TrustDeskModel_readRule_156 : decode kY_TrustDeskModel_readRule.2.1 156 = .ok (.aload_n 0, 1) := by decide +kernel
theorem d_TrustDeskModel_readRule_157 : decode kY_TrustDeskModel_readRule.2.1 157 = .ok (.getfield 20, 3) := by decide +kernel
theorem d_TrustDeskModel_readRule_160 : decode kY_TrustDeskModel_readRule.2.1 160 = .ok (.bipush 44, 2) := by decide +kernel
theorem d_TrustDeskModel_readRule_162 : decode kY_TrustDeskModel_readRule.2.1 162 = .ok (.iaload, 1) := by decide +kernel
theorem d_TrustDeskModel_readRule_163 : decode kY_TrustDeskModel_readRule.2.1 163 = .ok (.iastore, 1) := by decide +kernel
theorem d_TrustDeskModel_readRule_164 : decode kY_TrustDeskModel_readRule.2.1 164 = .ok (.aload_n 0, 1) := by decide +kernel
theorem d_TrustDeskModel_readRule_165 : decode kY_TrustDeskModel_readRule.2.1 165 = .ok (.invokevirtual 302, 3) := by decide +kernel
theorem d_TrustDeskModel_readRule_168 : decode kY_TrustDeskModel_readRule.2.1 168 = .ok (.goto 83, 3) := by decide +kernel
theorem d_TrustDeskModel_readRule_112 : decode kY_TrustDeskModel_readRule.2.1 112 = .ok (.iconst 3, 1) := by decide +kernel
theorem d_TrustDeskModel_readRule_113 : decode kY_TrustDeskModel_readRule.2.1 113 = .ok (.goto 4, 3) := by decide +kernel
theorem d_TrustDeskModel_readRule_140 : decode kY_TrustDeskModel_readRule.2.1 140 = .ok (.aload_n 0, 1) := by decide +kernel
theorem d_TrustDeskModel_readRule_141 : decode kY_TrustDeskModel_readRule.2.1 141 = .ok (.invokevirtual 237, 3) := by decide +kernel
theorem d_TrustDeskModel_readRule_98 : decode kY_TrustDeskModel_readRule.2.1 98 = .ok (.iconst 2, 1) := by decide +kernel
theorem d_TrustDeskModel_readRule_99 : decode kY_TrustDeskModel_readRule.2.1 99 = .ok (.goto 18, 3) := by decide +kernel
theorem d_TrustDeskModel_readRule_84 : decode kY_TrustDeskModel_readRule.2.1 84 = .ok (.iconst 1, 1) := by decide +kernel
theorem d_TrustDeskModel_readRule_85 : decode kY_TrustDeskModel_readRule.2.1 85 = .ok (.goto 32, 3) := by decide +kernel
theorem d_TrustDeskModel_readRule_70 : decode kY_TrustDeskModel_readRule.2.1 70 = .ok (.iconst 0, 1) := by decide +kernel
theorem d_TrustDeskModel_readRule_71 : decode kY_TrustDeskModel_readRule.2.1 71 = .ok (.goto 46, 3) := by decide +kernel
def w_TrustDeskModel_readRule_xB : List Nat := [1315, 1316, 1317, 1318, 1319, 1320, 1322, 20004, 20005, 20006, 20007, 20008, 20010, 20011, 20012]
set_option maxHeartbeats 100000000 in theorem tc_TrustDeskModel_readRule_xB {g : mj_G} {l : Launch} {d : Nat} {T0 : tm_H} {M0 : mj_M} {n0 x9 : Nat} {o0 : Nat} (h_o0 : T0 o0 = some (0, 13, 0)) (yR : rI M0 o0) (yWW : rW M0 o0) (yw : rv M0 o0 19 = 0) (yo : rv M0 o0 17 ≠ 0) (yq : rv M0 o0 22 = 0) {pb : Nat → Int} {pn : Nat} {pa : Int} {ps : p_S} (yO : pO M0 o0 pb pn pa ps) {pc9 : Nat} (yk : ra M0 o0 6 44 = (pc9 : Int)) (yB : p_wi pb pn ps.2.2 = 23) (I0 : tm_I tm_FT (tm_in w_TrustDeskModel_readRule_xB) x9 T0 M0 n0 T0 M0 n0) : mj_Met g l kY_TrustDeskModel_readRule (d + 25) [.ref o0] M0 n0 0 0 (tm_Q tm_FT (tm_in w_TrustDeskModel_readRule_xB) x9 T0 M0 n0 (fun r _ M => r = none ∧ rI M o0 ∧ (rW M o0) ∧ (rO M0 M o0) ∧ (rv M0 o0 16 ≤ rv M o0 16 ∧ (rv M o0 19 = 0 → rv M0 o0 16 < rv M o0 16)) ∧ (rv M o0 19 = 0 → rv M o0 22 = 0) ∧ (pO M o0 pb pn pa (p_rul pb pn pa pc9 ps)) ∧ (rv M o0 19 = 0 → ra M o0 6 44 = (pc9 : Int) + 1))) := by
  refine mj_enter (by decide) (Nat.le_of_ble_eq_true rfl) ?_
  have yT := yWW.1
  have yS : rv M0 o0 19 = 0 → ra M0 o0 5 44 ≤ rv M0 o0 16 := fun h9 => (yWW.2 h9).1
  have yG := (yWW.2 yw).2
  have yN := yG.2.2
  have := yR.2 6 _ _ rfl 44
  have yE0 := rE.rf yT
  have K1 : rK M0 M0 o0 ((880 + ra M0 o0 6 44).toNat) := rK.rf
  have K2 : nN M0 o0 := yN
  have := yO.w
  refine mv_aload_n d_TrustDeskModel_readRule_0 rfl rfl ?_
  obtain ⟨_, b9, -⟩ := I0.1 _ _ h_o0
  refine mv_callV (kc' := 0) (ks' := 0) (As := []) (st9 := [.ref o0]) d_TrustDeskModel_readRule_1 lV_TrustDeskModel_365 b9 rfl (tc_TrustDeskModel_ruleWord_x (d := (d + 19)) (x9 := x9) (o0 := o0) h_o0 yR yO (by have := yR.1 15 _ _ rfl; have := yR.1 16 _ _ rfl; have := yR.1 19 _ _ rfl; omega) I0.start) rfl (Nat.le_of_ble_eq_true rfl) (Nat.le_of_ble_eq_true rfl) (Nat.le_of_ble_eq_true rfl) (hst := rfl) (fun b3r M4 n5 b3 => ?_)
  obtain ⟨T6, J7, v10, rfl, R11, f12, f13⟩ := b3
  have I8 := I0.call J7 (tm_sub (by decide)) (Or.inl rfl)
  have t14 := J7.up h_o0
  have z15 := (rv_c I0 J7 (I0.up h_o0) (k := 15) rfl)
  have z16 := (rv_c I0 J7 (I0.up h_o0) (k := 16) rfl)
  have z17 := (rv_c I0 J7 (I0.up h_o0) (k := 17) rfl)
  have z18 := (rv_c I0 J7 (I0.up h_o0) (k := 19) rfl)
  have z19 := (rv_c I0 J7 (I0.up h_o0) (k := 22) rfl)
  have z20 := (rv_c I0 J7 (I0.up h_o0) (k := 24) rfl)
  have z21 := (ra_call I0 J7 (I0.up h_o0) (k := 5) rfl rfl rfl 44)
  have z22 := (ra_call I0 J7 (I0.up h_o0) (k := 6) rfl rfl rfl 44)
  have E23 : rE M0 M4 o0 0 0 := yE0.same (rE_hv I0 J7 (I0.up h_o0) 15 19 (by decide)) (rE_ha I0 J7 (I0.up h_o0) (by decide))
  have K24 : rK M0 M4 o0 ((880 + ra M0 o0 6 44).toNat) := K1.same (sA_c I0 J7 (I0.up h_o0) (by decide +kernel))
  have K25 : nN M4 o0 := K2.same (sA_c I0 J7 (I0.up h_o0) (by decide +kernel)) (sF_c I0 J7 (I0.up h_o0) (by decide +kernel))
  have Z926 : pO M4 o0 pb pn pa ps := yO.same (rE_hv I0 J7 (I0.up h_o0) 14 20 (by decide)) (rv_c I0 J7 (I0.up h_o0) (k := 23) rfl) (ra_call I0 J7 (I0.up h_o0) (k := 13) rfl rfl rfl)
  refine mv_istore_n (lv' := [(1, .int v10), (0, .ref o0)]) d_TrustDeskModel_readRule_4 rfl (by decide) rfl ?_
  refine mv_iload_n d_TrustDeskModel_readRule_5 rfl rfl ?_
  refine mv_iconst (v := (-1)) d_TrustDeskModel_readRule_6 (by decide) ?_
  have := mz_hi v10
  refine mv_icmp_neZ (tgt := 18) (a := v10.toInt) (b := (-1)) d_TrustDeskModel_readRule_7 (by decide) rfl (by decide) (fun b27 => ?_) (fun b27 => by exfalso; omega)
  refine mv_aload_n d_TrustDeskModel_readRule_18 rfl rfl ?_
  obtain ⟨a29, q28, t_a29⟩ := tm_atR I8 t14 (k := 6) rfl
  refine tr_getK q28 d_TrustDeskModel_readRule_19 f_TrustDeskModel_23_13 ?_
  refine mv_bipush (v := 44) d_TrustDeskModel_readRule_22 (by decide) ?_
  refine tr_ialdR (o := o0) (k := 6) I8 q28 t_a29 (by decide) d_TrustDeskModel_readRule_24 (by unfold vp_in; decide) (fun v30 e31 => ?_)
  have := R11.a (k := 6) rfl (44 : Int32).toNatClampNeg
  have : v30.toInt = ra M4 o0 6 44 := e31
  have : v30.toInt = _ := Eq.trans e31 z22
  refine mv_bipush (v := 20) d_TrustDeskModel_readRule_25 (by decide) ?_
  have := mz_hi v30
  refine mv_icmp_neZ (tgt := 35) (a := v30.toInt) (b := 20) d_TrustDeskModel_readRule_27 (by decide) rfl (by decide) (fun b32 => ?_) (fun b32 => ?_)
  · refine mv_aload_n d_TrustDeskModel_readRule_35 rfl rfl ?_
    obtain ⟨_, b33, -⟩ := I8.1 _ _ t14
    refine mv_callV (kc1 := 0) (ks1 := 0) (kc' := 0) (ks' := 0) (As := []) (st9 := [.ref o0]) d_TrustDeskModel_readRule_36 lV_TrustDeskModel_230 b33 rfl (mj_enter (by decide) (Nat.le_of_ble_eq_true rfl) ?_) rfl (Nat.le_of_ble_eq_true rfl) (Nat.le_of_ble_eq_true rfl) (Nat.le_of_ble_eq_true rfl) (hst := rfl) (fun _ _ _ h => h)
    refine mv_aload_n d_TrustDeskModel_isWell_0 rfl rfl ?_
    obtain ⟨v35, q34⟩ := tm_atI I8 t14 (k := 19) rfl
    refine tr_getK q34 d_TrustDeskModel_isWell_1 f_TrustDeskModel_224_13 ?_
    have := R11.f (k := 19) q34 rfl
    have := (tm_rv q34).symm.trans z18
    have := tm_rv q34
    have := mz_hi v35
    refine mv_if_neZ (tgt := 11) (a := v35.toInt) d_TrustDeskModel_isWell_4 (by decide) rfl (fun b36 => ?_) (fun b36 => ?_)
    · refine mv_iconst (v := 0) d_TrustDeskModel_isWell_11 (by decide) ?_
      refine mv_iret d_TrustDeskModel_isWell_12 rfl (by decide) ?_
      refine mv_if_ne_f (tgt := 43) d_TrustDeskModel_readRule_39 (by decide) (by decide) ?_
      exact mv_vret d_TrustDeskModel_readRule_42 rfl ⟨_, I8, rfl, R11, (rW.of E23.1 (E23.s yS (by decide)) (fun w9 => by skip; exact rG.step yG yR E23 w9 K24 (by have := yR.2 6 _ _ rfl 44; omega) (by have := R11.1 15 _ _ rfl; have := R11.1 16 _ _ rfl; have := R11.1 19 _ _ rfl; omega) (by have := R11.1 15 _ _ rfl; have := R11.1 16 _ _ rfl; have := R11.1 19 _ _ rfl; omega) (fun h9 => by exfalso; have := R11.1 15 _ _ rfl; have := R11.1 16 _ _ rfl; have := R11.1 19 _ _ rfl; omega) (fun h9 => (by have := R11.1 15 _ _ rfl; have := R11.1 16 _ _ rfl; have := R11.1 19 _ _ rfl; omega)) (by have := R11.1 15 _ _ rfl; have := R11.1 16 _ _ rfl; have := R11.1 19 _ _ rfl; omega) K25)), (rO.of E23 K24 (by have := yR.2 6 _ _ rfl 44; omega)), ⟨E23.2.1, fun w9 => by skip; have := E23.w2 w9; omega⟩, (fun w9 => by skip; omega), (by first | (rw [show p_rul pb pn pa pc9 ps = ps from (by unfold p_rul; unfold p_bar; (try simp only [eq_self]); ((repeat' (first | (with_reducible rfl) | split)) <;> (first | ((try simp only [eq_self]); done) | ((try simp only [eq_self]); first | exact p_sg_Z _ (by omega) | exact (p_sg_Z _ (by omega)).symm | omega) | (exfalso; omega))))]; exact Z926) | (exfalso; have := R11.1 15 _ _ rfl; have := R11.1 16 _ _ rfl; have := R11.1 19 _ _ rfl; omega)), (fun w9 => by skip; omega)⟩
    · refine mv_iconst (v := 1) d_TrustDeskModel_isWell_7 (by decide) ?_
      refine mv_goto (tgt := 12) d_TrustDeskModel_isWell_8 (by decide) ?_
      refine mv_iret d_TrustDeskModel_isWell_12 rfl (by decide) ?_
      refine mv_if_ne_t (tgt := 43) d_TrustDeskModel_readRule_39 (by decide) (by decide) ?_
      refine mv_aload_n d_TrustDeskModel_readRule_43 rfl rfl ?_
      refine mv_iload_n d_TrustDeskModel_readRule_44 rfl rfl ?_
      obtain ⟨_, b43, -⟩ := I8.1 _ _ t14
      refine mv_callV (kc' := 0) (ks' := 0) (As := [.int v10]) (st9 := [.int v10, .ref o0]) d_TrustDeskModel_readRule_45 lV_TrustDeskModel_342 b43 rfl (tc_TrustDeskModel_begin_x (d := (d + 22)) (x9 := x9) (o0 := o0) (x1 := v10) t14 R11 E23.1 (E23.s yS (by decide)) (by have := R11.1 15 _ _ rfl; have := R11.1 16 _ _ rfl; have := R11.1 19 _ _ rfl; omega) (by have := R11.1 15 _ _ rfl; have := R11.1 16 _ _ rfl; have := R11.1 19 _ _ rfl; omega) (by have := R11.1 15 _ _ rfl; have := R11.1 16 _ _ rfl; have := R11.1 19 _ _ rfl; omega) Z926 I8.start) rfl (Nat.le_of_ble_eq_true rfl) (Nat.le_of_ble_eq_true rfl) (Nat.le_of_ble_eq_true rfl) (hst := rfl) (fun b37r M38 n39 b37 => ?_)
      obtain ⟨T40, J41, v44, rfl, R45, f46, f47, f48, f49, f50, f51, f52⟩ := b37
      have I42 := I8.call J41 (tm_sub (by decide)) (Or.inl rfl)
      have t53 := J41.up t14
      have := f46.2.1
      have f54 := Im.i f46.w.2
      have f55 := Im.i f46.w2
      have z56 := (rv_c I8 J41 (I8.up h_o0) (k := 19) rfl).trans z18
      have z57 := (rv_c I8 J41 (I8.up h_o0) (k := 22) rfl).trans z19
      have z58 := (rv_c I8 J41 (I8.up h_o0) (k := 24) rfl).trans z20
      have z59 := (ra_call I8 J41 (I8.up h_o0) (k := 5) rfl rfl rfl 44).trans z21
      have E60 : rE M0 M38 o0 0 1 := E23.trans f46 (by decide) (yR.2 5 _ _ rfl 44).1 (by decide) (by decide)
      have h61 : (880 + ra M4 o0 6 44).toNat = (880 + ra M0 o0 6 44).toNat := by omega
      rw [h61] at f49 f50 f51
      have K62 : rK M0 M38 o0 ((880 + ra M0 o0 6 44).toNat) := K24.trans f51
      have K63 : nN M38 o0 := K25.same (sA_c I8 J41 (I8.up h_o0) (by decide +kernel)) (sF_c I8 J41 (I8.up h_o0) (by decide +kernel))
      obtain ⟨s64, e65⟩ : ∃ s9 : p_S, p_nx ps = s9 := ⟨_, rfl⟩
      rw [e65] at f52
      have := f52.w
      clear z19 z20
      have q66 := J41.keep t14 (by decide) q28
      have t67 := J41.up t_a29
      have q68 := J41.keep t14 (by decide) q34
      refine mv_istore_n (lv' := [(2, .int v44), (1, .int v10), (0, .ref o0)]) d_TrustDeskModel_readRule_48 rfl (by decide) rfl ?_
      refine mv_iload_n d_TrustDeskModel_readRule_49 rfl rfl ?_
      refine mv_bipush (v := 6) d_TrustDeskModel_readRule_50 (by decide) ?_
      have := mz_hi v10
      refine mv_icmp_neZ (tgt := 171) (a := v10.toInt) (b := 6) d_TrustDeskModel_readRule_52 (by decide) rfl (by decide) (fun b69 => by exfalso; omega) (fun b69 => ?_)
      refine mv_aload_n d_TrustDeskModel_readRule_55 rfl rfl ?_
      obtain ⟨a71, q70, t_a71⟩ := tm_atR I42 t53 (k := 8) rfl
      refine tr_getK q70 d_TrustDeskModel_readRule_56 f_TrustDeskModel_29_13 ?_
      refine mv_iload_n d_TrustDeskModel_readRule_59 rfl rfl ?_
      refine mv_aload_n d_TrustDeskModel_readRule_60 rfl rfl ?_
      refine mv_ldcSw (id := 21) (tx := "near") d_TrustDeskModel_readRule_61 (List.mem_of_getElem? (i := 11) rfl) ?_
      obtain ⟨_, b78, -⟩ := I42.1 _ _ t53
      refine mv_callV (kc' := 0) (ks' := 0) (As := [.ref 21]) (st9 := [.ref 21, .ref o0, .int v44, .ref a71]) d_TrustDeskModel_readRule_64 lV_TrustDeskModel_244 b78 rfl (tc_TrustDeskModel_isWord_s1_21_x (d := (d + 20)) (x9 := x9) (o0 := o0) t53 R45 I42.start) rfl (Nat.le_of_ble_eq_true rfl) (Nat.le_of_ble_eq_true rfl) (Nat.le_of_ble_eq_true rfl) (hst := rfl) (fun b72r M73 n74 b72 => ?_)
      obtain ⟨T75, J76, v79, rfl, b80, b81, R82, f83, f84, f85⟩ := b72
      have I77 := I42.call J76 (tm_sub (by decide)) (Or.inl rfl)
      have t86 := J76.up t53
      have t87 := J76.up t_a71
      replace f83 := Im.i f83
      replace f84 := Im.i f84
      replace f85 := Im.i f85
      have z88 := (rv_c I42 J76 (I42.up h_o0) (k := 15) rfl)
      have z89 := (rv_c I42 J76 (I42.up h_o0) (k := 16) rfl)
      have z90 := (rv_c I42 J76 (I42.up h_o0) (k := 17) rfl)
      have z91 := (rv_c I42 J76 (I42.up h_o0) (k := 19) rfl).trans z56
      have z92 := (rv_c I42 J76 (I42.up h_o0) (k := 22) rfl).trans z57
      have z93 := (rv_c I42 J76 (I42.up h_o0) (k := 24) rfl).trans z58
      have z94 := (ra_call I42 J76 (I42.up h_o0) (k := 5) rfl rfl rfl 44).trans z59
      have z95 := (ra_call I42 J76 (I42.up h_o0) (k := 6) rfl rfl rfl 44)
      have z96 := (ra_call I42 J76 (I42.up h_o0) (k := 7) rfl rfl rfl ((880 + ra M0 o0 6 44).toNat))
      have z97 := (ra_call I42 J76 (I42.up h_o0) (k := 10) rfl rfl rfl ((880 + ra M0 o0 6 44).toNat))
      have E98 : rE M0 M73 o0 0 1 := E60.same (rE_hv I42 J76 (I42.up h_o0) 15 19 (by decide)) (rE_ha I42 J76 (I42.up h_o0) (by decide))
      have K99 : rK M0 M73 o0 ((880 + ra M0 o0 6 44).toNat) := K62.same (sA_c I42 J76 (I42.up h_o0) (by decide +kernel))
      have K100 : nN M73 o0 := K63.same (sA_c I42 J76 (I42.up h_o0) (by decide +kernel)) (sF_c I42 J76 (I42.up h_o0) (by decide +kernel))
      have Z9101 : pO M73 o0 pb pn pa s64 := f52.same (rE_hv I42 J76 (I42.up h_o0) 14 20 (by decide)) (rv_c I42 J76 (I42.up h_o0) (k := 23) rfl) (ra_call I42 J76 (I42.up h_o0) (k := 13) rfl rfl rfl)
      have d102 := Im.i (pO.w_19 f52 (by have := R45.1 15 _ _ rfl; have := R45.1 16 _ _ rfl; have := R45.1 19 _ _ rfl; omega) (Im.o f84) (Im.o f85) (by have := R45.1 15 _ _ rfl; have := R45.1 16 _ _ rfl; have := R45.1 19 _ _ rfl; omega))
      clear z57 z58 z59
      have q103 := J76.keep t53 (by decide) q66
      have t104 := J76.up t67
      have q105 := J76.keep t53 (by decide) q68
      have q106 := J76.keep t53 (by decide) q70
      have := mz_hi v79
      refine mv_if_eqZ (tgt := 74) (a := v79.toInt) d_TrustDeskModel_readRule_67 (by decide) rfl (fun b107 => ?_) (fun b107 => ?_)
      · refine mv_aload_n d_TrustDeskModel_readRule_74 rfl rfl ?_
        refine mv_ldcSw (id := 22) (tx := "join") d_TrustDeskModel_readRule_75 (List.mem_of_getElem? (i := 12) rfl) ?_
        obtain ⟨_, b114, -⟩ := I77.1 _ _ t86
        refine mv_callV (kc' := 0) (ks' := 0) (As := [.ref 22]) (st9 := [.ref 22, .ref o0, .int v44, .ref a71]) d_TrustDeskModel_readRule_78 lV_TrustDeskModel_244 b114 rfl (tc_TrustDeskModel_isWord_s1_22_x (d := (d + 20)) (x9 := x9) (o0 := o0) t86 R82 I77.start) rfl (Nat.le_of_ble_eq_true rfl) (Nat.le_of_ble_eq_true rfl) (Nat.le_of_ble_eq_true rfl) (hst := rfl) (fun b108r M109 n110 b108 => ?_)
        obtain ⟨T111, J112, v115, rfl, b116, b117, R118, f119, f120, f121⟩ := b108
        have I113 := I77.call J112 (tm_sub (by decide)) (Or.inl rfl)
        have t122 := J112.up t86
        have t123 := J112.up t87
        replace f119 := Im.i f119
        replace f120 := Im.i f120
        replace f121 := Im.i f121
        have z124 := (rv_c I77 J112 (I77.up h_o0) (k := 15) rfl).trans z88
        have z125 := (rv_c I77 J112 (I77.up h_o0) (k := 16) rfl).trans z89
        have z126 := (rv_c I77 J112 (I77.up h_o0) (k := 17) rfl).trans z90
        have z127 := (rv_c I77 J112 (I77.up h_o0) (k := 19) rfl).trans z91
        have z128 := (rv_c I77 J112 (I77.up h_o0) (k := 22) rfl).trans z92
        have z129 := (rv_c I77 J112 (I77.up h_o0) (k := 24) rfl).trans z93
        have z130 := (ra_call I77 J112 (I77.up h_o0) (k := 5) rfl rfl rfl 44).trans z94
        have z131 := (ra_call I77 J112 (I77.up h_o0) (k := 6) rfl rfl rfl 44).trans z95
        have z132 := (ra_call I77 J112 (I77.up h_o0) (k := 7) rfl rfl rfl ((880 + ra M0 o0 6 44).toNat)).trans z96
        have z133 := (ra_call I77 J112 (I77.up h_o0) (k := 10) rfl rfl rfl ((880 + ra M0 o0 6 44).toNat)).trans z97
        have E134 : rE M0 M109 o0 0 1 := E98.same (rE_hv I77 J112 (I77.up h_o0) 15 19 (by decide)) (rE_ha I77 J112 (I77.up h_o0) (by decide))
        have K135 : rK M0 M109 o0 ((880 + ra M0 o0 6 44).toNat) := K99.same (sA_c I77 J112 (I77.up h_o0) (by decide +kernel))
        have K136 : nN M109 o0 := K100.same (sA_c I77 J112 (I77.up h_o0) (by decide +kernel)) (sF_c I77 J112 (I77.up h_o0) (by decide +kernel))
        have Z9137 : pO M109 o0 pb pn pa s64 := Z9101.same (rE_hv I77 J112 (I77.up h_o0) 14 20 (by decide)) (rv_c I77 J112 (I77.up h_o0) (k := 23) rfl) (ra_call I77 J112 (I77.up h_o0) (k := 13) rfl rfl rfl)
        have d138 := Im.i (pO.w_20 Z9101 (by have := R82.1 15 _ _ rfl; have := R82.1 16 _ _ rfl; have := R82.1 19 _ _ rfl; omega) (Im.o f120) (Im.o f121) (by have := R82.1 15 _ _ rfl; have := R82.1 16 _ _ rfl; have := R82.1 19 _ _ rfl; omega))
        clear z92 z93 z94 z95 z96 z97
        have q139 := J112.keep t86 (by decide) q103
        have t140 := J112.up t104
        have q141 := J112.keep t86 (by decide) q105
        have q142 := J112.keep t86 (by decide) q106
        have := mz_hi v115
        refine mv_if_eqZ (tgt := 88) (a := v115.toInt) d_TrustDeskModel_readRule_81 (by decide) rfl (fun b143 => ?_) (fun b143 => ?_)
        · refine mv_aload_n d_TrustDeskModel_readRule_88 rfl rfl ?_
          refine mv_ldcSw (id := 23) (tx := "sale") d_TrustDeskModel_readRule_89 (List.mem_of_getElem? (i := 13) rfl) ?_
          obtain ⟨_, b150, -⟩ := I113.1 _ _ t122
          refine mv_callV (kc' := 0) (ks' := 0) (As := [.ref 23]) (st9 := [.ref 23, .ref o0, .int v44, .ref a71]) d_TrustDeskModel_readRule_92 lV_TrustDeskModel_244 b150 rfl (tc_TrustDeskModel_isWord_s1_23_x (d := (d + 20)) (x9 := x9) (o0 := o0) t122 R118 I113.start) rfl (Nat.le_of_ble_eq_true rfl) (Nat.le_of_ble_eq_true rfl) (Nat.le_of_ble_eq_true rfl) (hst := rfl) (fun b144r M145 n146 b144 => ?_)
          obtain ⟨T147, J148, v151, rfl, b152, b153, R154, f155, f156, f157⟩ := b144
          have I149 := I113.call J148 (tm_sub (by decide)) (Or.inl rfl)
          have t158 := J148.up t122
          have t159 := J148.up t123
          replace f155 := Im.i f155
          replace f156 := Im.i f156
          replace f157 := Im.i f157
          have z160 := (rv_c I113 J148 (I113.up h_o0) (k := 15) rfl).trans z124
          have z161 := (rv_c I113 J148 (I113.up h_o0) (k := 16) rfl).trans z125
          have z162 := (rv_c I113 J148 (I113.up h_o0) (k := 17) rfl).trans z126
          have z163 := (rv_c I113 J148 (I113.up h_o0) (k := 19) rfl).trans z127
          have z164 := (rv_c I113 J148 (I113.up h_o0) (k := 22) rfl).trans z128
          have z165 := (rv_c I113 J148 (I113.up h_o0) (k := 24) rfl).trans z129
          have z166 := (ra_call I113 J148 (I113.up h_o0) (k := 5) rfl rfl rfl 44).trans z130
          have z167 := (ra_call I113 J148 (I113.up h_o0) (k := 6) rfl rfl rfl 44).trans z131
          have z168 := (ra_call I113 J148 (I113.up h_o0) (k := 7) rfl rfl rfl ((880 + ra M0 o0 6 44).toNat)).trans z132
          have z169 := (ra_call I113 J148 (I113.up h_o0) (k := 10) rfl rfl rfl ((880 + ra M0 o0 6 44).toNat)).trans z133
          have E170 : rE M0 M145 o0 0 1 := E134.same (rE_hv I113 J148 (I113.up h_o0) 15 19 (by decide)) (rE_ha I113 J148 (I113.up h_o0) (by decide))
          have K171 : rK M0 M145 o0 ((880 + ra M0 o0 6 44).toNat) := K135.same (sA_c I113 J148 (I113.up h_o0) (by decide +kernel))
          have K172 : nN M145 o0 := K136.same (sA_c I113 J148 (I113.up h_o0) (by decide +kernel)) (sF_c I113 J148 (I113.up h_o0) (by decide +kernel))
          have Z9173 : pO M145 o0 pb pn pa s64 := Z9137.same (rE_hv I113 J148 (I113.up h_o0) 14 20 (by decide)) (rv_c I113 J148 (I113.up h_o0) (k := 23) rfl) (ra_call I113 J148 (I113.up h_o0) (k := 13) rfl rfl rfl)
          have d174 := Im.i (pO.w_21 Z9137 (by have := R118.1 15 _ _ rfl; have := R118.1 16 _ _ rfl; have := R118.1 19 _ _ rfl; omega) (Im.o f156) (Im.o f157) (by have := R118.1 15 _ _ rfl; have := R118.1 16 _ _ rfl; have := R118.1 19 _ _ rfl; omega))
          clear z128 z129 z130 z131 z132 z133
          have q175 := J148.keep t122 (by decide) q139
          have t176 := J148.up t140
          have q177 := J148.keep t122 (by decide) q141
          have q178 := J148.keep t122 (by decide) q142
          have := mz_hi v151
          refine mv_if_eqZ (tgt := 102) (a := v151.toInt) d_TrustDeskModel_readRule_95 (by decide) rfl (fun b179 => ?_) (fun b179 => ?_)
          · refine mv_aload_n d_TrustDeskModel_readRule_102 rfl rfl ?_
            refine mv_ldcSw (id := 24) (tx := "strike") d_TrustDeskModel_readRule_103 (List.mem_of_getElem? (i := 14) rfl) ?_
            obtain ⟨_, b186, -⟩ := I149.1 _ _ t158
            refine mv_callV (kc' := 0) (ks' := 0) (As := [.ref 24]) (st9 := [.ref 24, .ref o0, .int v44, .ref a71]) d_TrustDeskModel_readRule_106 lV_TrustDeskModel_244 b186 rfl (tc_TrustDeskModel_isWord_s1_24_x (d := (d + 20)) (x9 := x9) (o0 := o0) t158 R154 I149.start) rfl (Nat.le_of_ble_eq_true rfl) (Nat.le_of_ble_eq_true rfl) (Nat.le_of_ble_eq_true rfl) (hst := rfl) (fun b180r M181 n182 b180 => ?_)
            obtain ⟨T183, J184, v187, rfl, b188, b189, R190, f191, f192, f193⟩ := b180
            have I185 := I149.call J184 (tm_sub (by decide)) (Or.inl rfl)
            have t194 := J184.up t158
            have t195 := J184.up t159
            replace f191 := Im.i f191
            replace f192 := Im.i f192
            replace f193 := Im.i f193
            have z196 := (rv_c I149 J184 (I149.up h_o0) (k := 15) rfl).trans z160
            have z197 := (rv_c I149 J184 (I149.up h_o0) (k := 16) rfl).trans z161
            have z198 := (rv_c I149 J184 (I149.up h_o0) (k := 17) rfl).trans z162
            have z199 := (rv_c I149 J184 (I149.up h_o0) (k := 19) rfl).trans z163
            have z200 := (rv_c I149 J184 (I149.up h_o0) (k := 22) rfl).trans z164
            have z201 := (rv_c I149 J184 (I149.up h_o0) (k := 24) rfl).trans z165
            have z202 := (ra_call I149 J184 (I149.up h_o0) (k := 5) rfl rfl rfl 44).trans z166
            have z203 := (ra_call I149 J184 (I149.up h_o0) (k := 6) rfl rfl rfl 44).trans z167
            have z204 := (ra_call I149 J184 (I149.up h_o0) (k := 7) rfl rfl rfl ((880 + ra M0 o0 6 44).toNat)).trans z168
            have z205 := (ra_call I149 J184 (I149.up h_o0) (k := 10) rfl rfl rfl ((880 + ra M0 o0 6 44).toNat)).trans z169
            have E206 : rE M0 M181 o0 0 1 := E170.same (rE_hv I149 J184 (I149.up h_o0) 15 19 (by decide)) (rE_ha I149 J184 (I149.up h_o0) (by decide))
            have K207 : rK M0 M181 o0 ((880 + ra M0 o0 6 44).toNat) := K171.same (sA_c I149 J184 (I149.up h_o0) (by decide +kernel))
            have K208 : nN M181 o0 := K172.same (sA_c I149 J184 (I149.up h_o0) (by decide +kernel)) (sF_c I149 J184 (I149.up h_o0) (by decide +kernel))
            have Z9209 : pO M181 o0 pb pn pa s64 := Z9173.same (rE_hv I149 J184 (I149.up h_o0) 14 20 (by decide)) (rv_c I149 J184 (I149.up h_o0) (k := 23) rfl) (ra_call I149 J184 (I149.up h_o0) (k := 13) rfl rfl rfl)
            have d210 := Im.i (pO.w_22 Z9173 (by have := R154.1 15 _ _ rfl; have := R154.1 16 _ _ rfl; have := R154.1 19 _ _ rfl; omega) (Im.o f192) (Im.o f193) (by have := R154.1 15 _ _ rfl; have := R154.1 16 _ _ rfl; have := R154.1 19 _ _ rfl; omega))
            clear z164 z165 z166 z167 z168 z169
            have q211 := J184.keep t158 (by decide) q175
            have t212 := J184.up t176
            have q213 := J184.keep t158 (by decide) q177
            have q214 := J184.keep t158 (by decide) q178
            have := mz_hi v187
            refine mv_if_eqZ (tgt := 116) (a := v187.toInt) d_TrustDeskModel_readRule_109 (by decide) rfl (fun b215 => ?_) (fun b215 => ?_)
            · refine mv_iconst (v := (-1)) d_TrustDeskModel_readRule_116 (by decide) ?_
              refine tr_iastR (k := 8) I185 R190 (I185.up h_o0) q214 t195 (by decide) (by decide) (fun lo hi h => by cases h; have e9 : ((-1) : Int32).toInt = (-1) := (by decide); exact ⟨by show ((-1) : Int) ≤ ((-1) : Int32).toInt; omega, by show ((-1) : Int32).toInt ≤ (720 : Int); omega⟩) (Or.inl (by decide)) d_TrustDeskModel_readRule_117 (vp_in_iff.mpr (by have := R190.1 15 _ _ rfl; have := R190.1 16 _ _ rfl; have := R190.1 19 _ _ rfl; omega)) (fun M216 I217 K218 R219 E220 A221 V222 => ?_)
              have z223 := (V222 15).trans z196
              have z224 := (V222 16).trans z197
              have z225 := (V222 17).trans z198
              have z226 := (V222 19).trans z199
              have z227 := (V222 22).trans z200
              have z228 := (V222 24).trans z201
              have z229 := (A221 5 (by decide) rfl 44).trans z202
              have z230 := (A221 6 (by decide) rfl 44).trans z203
              have z231 := (A221 7 (by decide) rfl ((880 + ra M0 o0 6 44).toNat)).trans z204
              have z232 := (A221 10 (by decide) rfl ((880 + ra M0 o0 6 44).toNat)).trans z205
              have E233 : rE M0 M216 o0 0 1 := E206.same (fun k _ _ => V222 k) (fun k h1 h2 => A221 k (by omega) (by rcases (show k = 4 ∨ k = 5 by omega) with rfl | rfl <;> rfl))
              have h234 : (880 + ra M0 o0 6 44).toNat = v44.toNatClampNeg := by have := mz_nat9 (i := v44) (by have := R190.1 15 _ _ rfl; have := R190.1 16 _ _ rfl; have := R190.1 19 _ _ rfl; omega); have := R190.1 15 _ _ rfl; have := R190.1 16 _ _ rfl; have := R190.1 19 _ _ rfl; omega
              have z235 : ra M216 o0 8 ((880 + ra M0 o0 6 44).toNat) = (-1) := (E220 _).trans (if_pos h234)
              have K236 : rK M0 M216 o0 ((880 + ra M0 o0 6 44).toNat) := K207.st A221 E220 (by have := mz_nat9 (i := v44) (by have := R190.1 15 _ _ rfl; have := R190.1 16 _ _ rfl; have := R190.1 19 _ _ rfl; omega); have := R190.1 15 _ _ rfl; have := R190.1 16 _ _ rfl; have := R190.1 19 _ _ rfl; omega)
              have K237 : nN M216 o0 := K208.same (sA_a A221 (by decide +kernel)) (sF_a V222)
              have Z9238 : pO M216 o0 pb pn pa s64 := Z9209.same (fun k _ _ => V222 k) (V222 23) (A221 13 (by decide) rfl)
              clear z196 z197 z198 z200 z201 z202 z203 z204 z205
              refine mv_aload_n d_TrustDeskModel_readRule_118 rfl rfl ?_
              refine tr_getK (k := 8) (K218 _ 13 8 _ q214) d_TrustDeskModel_readRule_119 f_TrustDeskModel_29_13 ?_
              refine mv_iload_n d_TrustDeskModel_readRule_122 rfl rfl ?_
              refine tr_ialdR (o := o0) (k := 8) I217 (K218 _ 13 8 _ q214) t195 (by decide) d_TrustDeskModel_readRule_123 (vp_in_iff.mpr (by have := R219.1 15 _ _ rfl; have := R219.1 16 _ _ rfl; have := R219.1 19 _ _ rfl; omega)) (fun v239 e240 => ?_)
              have := R219.a (k := 8) rfl (v44 : Int32).toNatClampNeg
              have h241 : (880 + ra M0 o0 6 44).toNat = v44.toNatClampNeg := by have := mz_nat9 (i := v44) (by have := R219.1 15 _ _ rfl; have := R219.1 16 _ _ rfl; have := R219.1 19 _ _ rfl; omega); have := R219.1 15 _ _ rfl; have := R219.1 16 _ _ rfl; have := R219.1 19 _ _ rfl; omega
              have z242 : v239.toInt = ra M216 o0 8 ((880 + ra M0 o0 6 44).toNat) := by rw [e240, h241]
              have : v239.toInt = _ := Eq.trans z242 z235
              refine mv_iconst (v := (-1)) d_TrustDeskModel_readRule_124 (by decide) ?_
              have := mz_hi v239
              refine mv_icmp_neZ (tgt := 133) (a := v239.toInt) (b := (-1)) d_TrustDeskModel_readRule_125 (by decide) rfl (by decide) (fun b243 => absurd b243 (by omega)) (fun b243 => ?_)
              refine mv_aload_n d_TrustDeskModel_readRule_128 rfl rfl ?_
              refine mv_iconst (v := 1) d_TrustDeskModel_readRule_129 (by decide) ?_
              obtain ⟨_, b250, -⟩ := I217.1 _ _ t194
              have : (1 : Int32).toInt = 1 := by decide
              refine mv_callV (kc' := 0) (ks' := 0) (As := [.int 1]) (st9 := [.int 1, .ref o0]) d_TrustDeskModel_readRule_130 lV_TrustDeskModel_240 b250 rfl (tc_TrustDeskModel_fails_x (d := (d + 24)) (x9 := x9) (o0 := o0) (x1 := 1) t194 R219 (by decide) Z9238 I217.start) rfl (Nat.le_of_ble_eq_true rfl) (Nat.le_of_ble_eq_true rfl) (Nat.le_of_ble_eq_true rfl) (hst := rfl) (fun b244r M245 n246 b244 => ?_)
              obtain ⟨T247, J248, rfl, R251, f252, f253⟩ := b244
              have I249 := I217.call J248 (tm_sub (by decide)) (Or.inl rfl)
              have t254 := J248.up t194
              have z255 := (rv_c I217 J248 (I217.up h_o0) (k := 15) rfl).trans z223
              have z256 := (rv_c I217 J248 (I217.up h_o0) (k := 16) rfl).trans z224
              have z257 := (rv_c I217 J248 (I217.up h_o0) (k := 17) rfl).trans z225
              have z258 := (rv_c I217 J248 (I217.up h_o0) (k := 22) rfl).trans z227
              have z259 := (rv_c I217 J248 (I217.up h_o0) (k := 24) rfl).trans z228
              have z260 := (ra_call I217 J248 (I217.up h_o0) (k := 5) rfl rfl rfl 44).trans z229
              have z261 := (ra_call I217 J248 (I217.up h_o0) (k := 6) rfl rfl rfl 44).trans z230
              have z262 := (ra_call I217 J248 (I217.up h_o0) (k := 7) rfl rfl rfl ((880 + ra M0 o0 6 44).toNat)).trans z231
              have z263 := (ra_call I217 J248 (I217.up h_o0) (k := 10) rfl rfl rfl ((880 + ra M0 o0 6 44).toNat)).trans z232
              have z264 := (ra_call I217 J248 (I217.up h_o0) (k := 8) rfl rfl rfl ((880 + ra M0 o0 6 44).toNat)).trans z235
              have E265 : rE M0 M245 o0 0 1 := E233.fails (rE_hv I217 J248 (I217.up h_o0) 15 18 (by decide)) (rE_ha I217 J248 (I217.up h_o0) (by decide)) f252 0 1
              have K266 : rK M0 M245 o0 ((880 + ra M0 o0 6 44).toNat) := K236.same (sA_c I217 J248 (I217.up h_o0) (by decide +kernel))
              have K267 : nN M245 o0 := K237.same (sA_c I217 J248 (I217.up h_o0) (by decide +kernel)) (sF_c I217 J248 (I217.up h_o0) (by decide +kernel))
              rw [show (1 : Int32).toInt = 1 from by decide] at f253
              obtain ⟨s268, e269⟩ : ∃ s9 : p_S, p_fl pb pn 1 s64 = s9 := ⟨_, rfl⟩
              rw [e269] at f253
              have := f253.w
              clear z223 z224 z225 z227 z228 z229 z230 z231 z232 z235
              have q270 := J248.keep t194 (by decide) (K218 _ 13 6 _ q211)
              have t271 := J248.up t212
              have q272 := J248.keep t194 (by decide) (K218 _ 13 8 _ q214)
              have t273 := J248.up t195
              refine mv_aload_n d_TrustDeskModel_readRule_133 rfl rfl ?_
              obtain ⟨_, b274, -⟩ := I249.1 _ _ t254
              refine mv_callV (kc1 := 0) (ks1 := 0) (kc' := 0) (ks' := 0) (As := []) (st9 := [.ref o0]) d_TrustDeskModel_readRule_134 lV_TrustDeskModel_230 b274 rfl (mj_enter (by decide) (Nat.le_of_ble_eq_true rfl) ?_) rfl (Nat.le_of_ble_eq_true rfl) (Nat.le_of_ble_eq_true rfl) (Nat.le_of_ble_eq_true rfl) (hst := rfl) (fun _ _ _ h => h)
              refine mv_aload_n d_TrustDeskModel_isWell_0 rfl rfl ?_
              obtain ⟨v276, q275⟩ := tm_atI I249 t254 (k := 19) rfl
              refine tr_getK q275 d_TrustDeskModel_isWell_1 f_TrustDeskModel_224_13 ?_
              have := R251.f (k := 19) q275 rfl
              have := tm_rv q275
              refine mv_if_neZ (tgt := 11) (a := v276.toInt) d_TrustDeskModel_isWell_4 (by decide) rfl (fun b277 => ?_) (fun b277 => ?_)
              · refine mv_iconst (v := 0) d_TrustDeskModel_isWell_11 (by decide) ?_
                refine mv_iret d_TrustDeskModel_isWell_12 rfl (by decide) ?_
                refine mv_if_eq_t (tgt := 144) d_TrustDeskModel_readRule_137 (by decide) (by decide) ?_
                refine mv_aload_n d_TrustDeskModel_readRule_144 rfl rfl ?_
                refine mv_ldcSw (id := 25) (tx := "if") d_TrustDeskModel_readRule_145 (List.mem_of_getElem? (i := 15) rfl) ?_
                obtain ⟨_, b284, -⟩ := I249.1 _ _ t254
                refine mv_callV (kc' := 0) (ks' := 0) (As := [.ref 25]) (st9 := [.ref 25, .ref o0]) d_TrustDeskModel_readRule_148 lV_TrustDeskModel_329 b284 rfl (tc_TrustDeskModel_wantWord_s1_25_x (d := (d + 19)) (x9 := x9) (o0 := o0) t254 R251 E265.1 (E265.s yS (by decide)) f253 I249.start) rfl (Nat.le_of_ble_eq_true rfl) (Nat.le_of_ble_eq_true rfl) (Nat.le_of_ble_eq_true rfl) (hst := rfl) (fun b278r M279 n280 b278 => ?_)
                obtain ⟨T281, J282, rfl, R285, f286, f287⟩ := b278
                have I283 := I249.call J282 (tm_sub (by decide)) (Or.inl rfl)
                have t288 := J282.up t254
                have := f286.2.1
                have f289 := Im.i f286.w.2
                have f290 := Im.i f286.w2
                have z291 := (rv_c I249 J282 (I249.up h_o0) (k := 22) rfl).trans z258
                have z292 := (rv_c I249 J282 (I249.up h_o0) (k := 24) rfl).trans z259
                have z293 := (ra_call I249 J282 (I249.up h_o0) (k := 5) rfl rfl rfl 44).trans z260
                have z294 := (ra_call I249 J282 (I249.up h_o0) (k := 6) rfl rfl rfl 44).trans z261
                have z295 := (ra_call I249 J282 (I249.up h_o0) (k := 7) rfl rfl rfl ((880 + ra M0 o0 6 44).toNat)).trans z262
                have z296 := (ra_call I249 J282 (I249.up h_o0) (k := 10) rfl rfl rfl ((880 + ra M0 o0 6 44).toNat)).trans z263
                have z297 := (ra_call I249 J282 (I249.up h_o0) (k := 8) rfl rfl rfl ((880 + ra M0 o0 6 44).toNat)).trans z264
                have E298 : rE M0 M279 o0 0 2 := E265.trans f286 (by decide) (yR.2 5 _ _ rfl 44).1 (by decide) (by decide)
                have K299 : rK M0 M279 o0 ((880 + ra M0 o0 6 44).toNat) := K266.same (sA_c I249 J282 (I249.up h_o0) (by decide +kernel))
                have K300 : nN M279 o0 := K267.same (sA_c I249 J282 (I249.up h_o0) (by decide +kernel)) (sF_c I249 J282 (I249.up h_o0) (by decide +kernel))
                obtain ⟨s301, e302⟩ : ∃ s9 : p_S, p_wd pb pn 28 s268 = s9 := ⟨_, rfl⟩
                rw [e302] at f287
                have := f287.w
                clear z258 z259 z260 z261 z262 z263 z264
                have q303 := J282.keep t254 (by decide) q270
                have t304 := J282.up t271
                have q305 := J282.keep t254 (by decide) q272
                have t306 := J282.up t273
                refine mv_aload_n d_TrustDeskModel_readRule_151 rfl rfl ?_
                obtain ⟨a308, q307, t_a308⟩ := tm_atR I283 t288 (k := 11) rfl
                refine tr_getK q307 d_TrustDeskModel_readRule_152 f_TrustDeskModel_38_13 ?_
                refine mv_iload_n d_TrustDeskModel_readRule_155 rfl rfl ?_
                refine mv_aload_n d_TrustDeskModel_readRule_156 rfl rfl ?_
                obtain ⟨a310, q309, t_a310⟩ := tm_atR I283 t288 (k := 5) rfl
                refine tr_getK q309 d_TrustDeskModel_readRule_157 f_TrustDeskModel_20_13 ?_
                refine mv_bipush (v := 44) d_TrustDeskModel_readRule_160 (by decide) ?_
                refine tr_ialdR (o := o0) (k := 5) I283 q309 t_a310 (by decide) d_TrustDeskModel_readRule_162 (by unfold vp_in; decide) (fun v311 e312 => ?_)
                have := R285.a (k := 5) rfl (44 : Int32).toNatClampNeg
                have : v311.toInt = ra M279 o0 5 44 := e312
                have : v311.toInt = _ := Eq.trans e312 z293
                refine tr_iastR (k := 11) I283 R285 (I283.up h_o0) q307 t_a308 (by decide) (by decide) (fun lo hi h => by cases h; have := R285.1 15 _ _ rfl; have := R285.1 16 _ _ rfl; have := R285.1 19 _ _ rfl; exact ⟨by show (0 : Int) ≤ v311.toInt; omega, by show v311.toInt ≤ (400 : Int); omega⟩) (Or.inl (by decide)) d_TrustDeskModel_readRule_163 (vp_in_iff.mpr (by have := R285.1 15 _ _ rfl; have := R285.1 16 _ _ rfl; have := R285.1 19 _ _ rfl; omega)) (fun M313 I314 K315 R316 E317 A318 V319 => ?_)
                have z320 := (V319 15)
                have z321 := (V319 16)
                have z322 := (V319 17)
                have z323 := (V319 19)
                have z324 := (V319 22).trans z291
                have z325 := (V319 24).trans z292
                have z326 := (A318 5 (by decide) rfl 44).trans z293
                have z327 := (A318 6 (by decide) rfl 44).trans z294
                have z328 := (A318 7 (by decide) rfl ((880 + ra M0 o0 6 44).toNat)).trans z295
                have z329 := (A318 10 (by decide) rfl ((880 + ra M0 o0 6 44).toNat)).trans z296
                have z330 := (A318 8 (by decide) rfl ((880 + ra M0 o0 6 44).toNat)).trans z297
                have E331 : rE M0 M313 o0 0 2 := E298.same (fun k _ _ => V319 k) (fun k h1 h2 => A318 k (by omega) (by rcases (show k = 4 ∨ k = 5 by omega) with rfl | rfl <;> rfl))
                have h332 : (880 + ra M0 o0 6 44).toNat = v44.toNatClampNeg := by have := mz_nat9 (i := v44) (by have := R285.1 15 _ _ rfl; have := R285.1 16 _ _ rfl; have := R285.1 19 _ _ rfl; omega); have := R285.1 15 _ _ rfl; have := R285.1 16 _ _ rfl; have := R285.1 19 _ _ rfl; omega
                have z333 : ra M313 o0 11 ((880 + ra M0 o0 6 44).toNat) = v311.toInt := (E317 _).trans (if_pos h332)
                have K334 : rK M0 M313 o0 ((880 + ra M0 o0 6 44).toNat) := K299.st A318 E317 (by have := mz_nat9 (i := v44) (by have := R285.1 15 _ _ rfl; have := R285.1 16 _ _ rfl; have := R285.1 19 _ _ rfl; omega); have := R285.1 15 _ _ rfl; have := R285.1 16 _ _ rfl; have := R285.1 19 _ _ rfl; omega)
                have K335 : nN M313 o0 := K300.same (sA_a A318 (by decide +kernel)) (sF_a V319)
                have F336 : rE M313 M313 o0 0 0 := rE.rf E331.1
                have : ra M313 o0 5 44 = v311.toInt := by omega
                have Z9337 : pO M313 o0 pb pn pa s301 := f287.same (fun k _ _ => V319 k) (V319 23) (A318 13 (by decide) rfl)
                clear z291 z292 z293 z294 z295 z296 z297
                refine mv_aload_n d_TrustDeskModel_readRule_164 rfl rfl ?_
                obtain ⟨_, b344, -⟩ := I314.1 _ _ t288
                refine mv_callV (kc' := 0) (ks' := 0) (As := []) (st9 := [.ref o0]) d_TrustDeskModel_readRule_165 lV_TrustDeskModel_302 b344 rfl (tc_TrustDeskModel_cond_q5_x (d := d) (x9 := x9) (o0 := o0) t288 R316 E331.1 (E331.s yS (by decide)) (Classical.byCases (fun w9 : rv M313 o0 19 = 0 => by have u91 : rv M279 o0 19 = 0 := (by omega); have := f289.o u91; have := f290.o u91; have u92 : rv M38 o0 19 = 0 := (by omega); have := f54.o u92; have := f55.o u92; omega) (fun w9 : ¬ rv M313 o0 19 = 0 => by omega)) Z9337 I314.start) rfl (Nat.le_of_ble_eq_true rfl) (Nat.le_of_ble_eq_true rfl) (Nat.le_of_ble_eq_true rfl) (hst := rfl) (fun b338r M339 n340 b338 => ?_)
                obtain ⟨T341, J342, rfl, R345, f346, f347, f348⟩ := b338
                have I343 := I314.call J342 (tm_sub (by decide)) (Or.inl rfl)
                have t349 := J342.up t288
                have := f346.2.1
                have f350 := Im.i f346.w.2
                have f351 := Im.i f346.w2
                replace f347 := Im.i f347
                have z352 := (rv_c I314 J342 (I314.up h_o0) (k := 24) rfl).trans z325
                have z353 := (ra_call I314 J342 (I314.up h_o0) (k := 6) rfl rfl rfl 44).trans z327
                have z354 := (ra_call I314 J342 (I314.up h_o0) (k := 7) rfl rfl rfl ((880 + ra M0 o0 6 44).toNat)).trans z328
                have z355 := (ra_call I314 J342 (I314.up h_o0) (k := 10) rfl rfl rfl ((880 + ra M0 o0 6 44).toNat)).trans z329
                have z356 := (ra_call I314 J342 (I314.up h_o0) (k := 8) rfl rfl rfl ((880 + ra M0 o0 6 44).toNat)).trans z330
                have z357 := (ra_call I314 J342 (I314.up h_o0) (k := 11) rfl rfl rfl ((880 + ra M0 o0 6 44).toNat)).trans z333
                have E358 : rE M0 M339 o0 1 2 := E331.trans f346 (by decide) (yR.2 5 _ _ rfl 44).1 (by decide) (by decide)
                have K359 : rK M0 M339 o0 ((880 + ra M0 o0 6 44).toNat) := K334.same (sA_c I314 J342 (I314.up h_o0) (by decide +kernel))
                have K360 : nN M339 o0 := K335.same (sA_c I314 J342 (I314.up h_o0) (by decide +kernel)) (sF_c I314 J342 (I314.up h_o0) (by decide +kernel))
                have F361 : rE M313 M339 o0 1 0 := F336.trans f346 (by decide) (R316.2 5 _ _ rfl 44).1 (by decide) (by decide)
                obtain ⟨s362, e363⟩ : ∃ s9 : p_S, p_con pb pn pa 4 (p_oc pb pn pa 4) s301 = s9 := ⟨_, rfl⟩
                rw [e363] at f348
                have := f348.w
                clear z325 z327 z328 z329 z330 z333
                have q364 := J342.keep t288 (by decide) (K315 _ 13 6 _ q303)
                have t365 := J342.up t304
                have q366 := J342.keep t288 (by decide) (K315 _ 13 8 _ q305)
                have t367 := J342.up t306
                have q368 := J342.keep t288 (by decide) (K315 _ 13 11 _ q307)
                have t369 := J342.up t_a308
                have q370 := J342.keep t288 (by decide) (K315 _ 13 5 _ q309)
                have t371 := J342.up t_a310
                refine mv_goto (tgt := 251) d_TrustDeskModel_readRule_168 (by decide) ?_
                refine mv_aload_n d_TrustDeskModel_readRule_251 rfl rfl ?_
                refine mv_bipush (v := 59) d_TrustDeskModel_readRule_252 (by decide) ?_
                obtain ⟨_, b378, -⟩ := I343.1 _ _ t349
                have : (59 : Int32).toInt = 59 := by decide
                refine mv_callV (kc' := 0) (ks' := 0) (As := [.int 59]) (st9 := [.int 59, .ref o0]) d_TrustDeskModel_readRule_254 lV_TrustDeskModel_291 b378 rfl (tc_TrustDeskModel_wantSign_x (d := (d + 22)) (x9 := x9) (o0 := o0) (x1 := 59) t349 R345 E358.1 (E358.s yS (by decide)) (by decide) f348 I343.start) rfl (Nat.le_of_ble_eq_true rfl) (Nat.le_of_ble_eq_true rfl) (Nat.le_of_ble_eq_true rfl) (hst := rfl) (fun b372r M373 n374 b372 => ?_)
                obtain ⟨T375, J376, rfl, R379, f380, f381⟩ := b372
                have I377 := I343.call J376 (tm_sub (by decide)) (Or.inl rfl)
                have t382 := J376.up t349
                have := f380.2.1
                have f383 := Im.i f380.w.2
                have f384 := Im.i f380.w2
                have z385 := (rv_c I343 J376 (I343.up h_o0) (k := 22) rfl)
                have z386 := (rv_c I343 J376 (I343.up h_o0) (k := 24) rfl).trans z352
                have z387 := (ra_call I343 J376 (I343.up h_o0) (k := 5) rfl rfl rfl 44)
                have z388 := (ra_call I343 J376 (I343.up h_o0) (k := 6) rfl rfl rfl 44).trans z353
                have z389 := (ra_call I343 J376 (I343.up h_o0) (k := 7) rfl rfl rfl ((880 + ra M0 o0 6 44).toNat)).trans z354
                have z390 := (ra_call I343 J376 (I343.up h_o0) (k := 10) rfl rfl rfl ((880 + ra M0 o0 6 44).toNat)).trans z355
                have z391 := (ra_call I343 J376 (I343.up h_o0) (k := 8) rfl rfl rfl ((880 + ra M0 o0 6 44).toNat)).trans z356
                have z392 := (ra_call I343 J376 (I343.up h_o0) (k := 11) rfl rfl rfl ((880 + ra M0 o0 6 44).toNat)).trans z357
                have E393 : rE M0 M373 o0 1 3 := E358.trans f380 (by decide) (yR.2 5 _ _ rfl 44).1 (by decide) (by decide)
                have K394 : rK M0 M373 o0 ((880 + ra M0 o0 6 44).toNat) := K359.same (sA_c I343 J376 (I343.up h_o0) (by decide +kernel))
                have K395 : nN M373 o0 := K360.same (sA_c I343 J376 (I343.up h_o0) (by decide +kernel)) (sF_c I343 J376 (I343.up h_o0) (by decide +kernel))
                have F396 : rE M313 M373 o0 1 1 := F361.trans f380 (by decide) (R316.2 5 _ _ rfl 44).1 (by decide) (by decide)
                rw [show (59 : Int32).toInt = 59 from by decide] at f381
                obtain ⟨s397, e398⟩ : ∃ s9 : p_S, p_sg pb pn 59 s362 = s9 := ⟨_, rfl⟩
                rw [e398] at f381
                have := f381.w
                clear z352 z353 z354 z355 z356 z357
                have q399 := J376.keep t349 (by decide) q364
                have t400 := J376.up t365
                have q401 := J376.keep t349 (by decide) q366
                have t402 := J376.up t367
                have q403 := J376.keep t349 (by decide) q368
                have t404 := J376.up t369
                have q405 := J376.keep t349 (by decide) q370
                have t406 := J376.up t371
                refine mv_aload_n d_TrustDeskModel_readRule_257 rfl rfl ?_
                obtain ⟨a408, q407, t_a408⟩ := tm_atR I377 t382 (k := 12) rfl
                refine tr_getK q407 d_TrustDeskModel_readRule_258 f_TrustDeskModel_41_13 ?_
                refine mv_iload_n d_TrustDeskModel_readRule_261 rfl rfl ?_
                refine mv_aload_n d_TrustDeskModel_readRule_262 rfl rfl ?_
                refine tr_getK (k := 5) q405 d_TrustDeskModel_readRule_263 f_TrustDeskModel_20_13 ?_
                refine mv_bipush (v := 44) d_TrustDeskModel_readRule_266 (by decide) ?_
                refine tr_ialdR (o := o0) (k := 5) I377 q405 t406 (by decide) d_TrustDeskModel_readRule_268 (by unfold vp_in; decide) (fun v409 e410 => ?_)
                have := R379.a (k := 5) rfl (44 : Int32).toNatClampNeg
                have : v409.toInt = ra M373 o0 5 44 := e410
                have : v409.toInt = _ := Eq.trans e410 z387
                refine tr_iastR (k := 12) I377 R379 (I377.up h_o0) q407 t_a408 (by decide) (by decide) (fun lo hi h => by cases h; have := R379.1 15 _ _ rfl; have := R379.1 16 _ _ rfl; have := R379.1 19 _ _ rfl; exact ⟨by show (0 : Int) ≤ v409.toInt; omega, by show v409.toInt ≤ (400 : Int); omega⟩) (Or.inl (by decide)) d_TrustDeskModel_readRule_269 (vp_in_iff.mpr (by have := R379.1 15 _ _ rfl; have := R379.1 16 _ _ rfl; have := R379.1 19 _ _ rfl; omega)) (fun M411 I412 K413 R414 E415 A416 V417 => ?_)
                have z418 := (V417 15)
                have z419 := (V417 16)
                have z420 := (V417 17)
                have z421 := (V417 19)
                have z422 := (V417 22).trans z385
                have z423 := (V417 24).trans z386
                have z424 := (A416 5 (by decide) rfl 44).trans z387
                have z425 := (A416 6 (by decide) rfl 44).trans z388
                have z426 := (A416 7 (by decide) rfl ((880 + ra M0 o0 6 44).toNat)).trans z389
                have z427 := (A416 10 (by decide) rfl ((880 + ra M0 o0 6 44).toNat)).trans z390
                have z428 := (A416 8 (by decide) rfl ((880 + ra M0 o0 6 44).toNat)).trans z391
                have z429 := (A416 11 (by decide) rfl ((880 + ra M0 o0 6 44).toNat)).trans z392
                have E430 : rE M0 M411 o0 1 3 := E393.same (fun k _ _ => V417 k) (fun k h1 h2 => A416 k (by omega) (by rcases (show k = 4 ∨ k = 5 by omega) with rfl | rfl <;> rfl))
                have h431 : (880 + ra M0 o0 6 44).toNat = v44.toNatClampNeg := by have := mz_nat9 (i := v44) (by have := R379.1 15 _ _ rfl; have := R379.1 16 _ _ rfl; have := R379.1 19 _ _ rfl; omega); have := R379.1 15 _ _ rfl; have := R379.1 16 _ _ rfl; have := R379.1 19 _ _ rfl; omega
                have z432 : ra M411 o0 12 ((880 + ra M0 o0 6 44).toNat) = v409.toInt := (E415 _).trans (if_pos h431)
                have K433 : rK M0 M411 o0 ((880 + ra M0 o0 6 44).toNat) := K394.st A416 E415 (by have := mz_nat9 (i := v44) (by have := R379.1 15 _ _ rfl; have := R379.1 16 _ _ rfl; have := R379.1 19 _ _ rfl; omega); have := R379.1 15 _ _ rfl; have := R379.1 16 _ _ rfl; have := R379.1 19 _ _ rfl; omega)
                have K434 : nN M411 o0 := K395.same (sA_a A416 (by decide +kernel)) (sF_a V417)
                have F435 : rE M313 M411 o0 1 1 := F396.same (fun k _ _ => V417 k) (fun k h1 h2 => A416 k (by omega) (by rcases (show k = 4 ∨ k = 5 by omega) with rfl | rfl <;> rfl))
                have Z9436 : pO M411 o0 pb pn pa s397 := f381.same (fun k _ _ => V417 k) (V417 23) (A416 13 (by decide) rfl)
                clear z385 z386 z387 z388 z389 z390 z391 z392
                exact mv_vret d_TrustDeskModel_readRule_270 rfl ⟨_, I412, rfl, R414, (rW.of E430.1 (fun h9 => by exfalso; have u91 : rv M373 o0 19 = 0 := (by omega); have := f383.o u91; have := f384.o u91; have u92 : rv M339 o0 19 = 0 := (by omega); have := f350.o u92; have := f351.o u92; have := f347.o u92; have u93 : rv M279 o0 19 = 0 := (by omega); have := f289.o u93; have := f290.o u93; have u94 : rv M38 o0 19 = 0 := (by omega); have := f54.o u94; have := f55.o u94; have := R414.1 15 _ _ rfl; have := R414.1 16 _ _ rfl; have := R414.1 19 _ _ rfl; omega) (fun h9 => by exfalso; have u91 : rv M373 o0 19 = 0 := (by omega); have := f383.o u91; have := f384.o u91; have u92 : rv M339 o0 19 = 0 := (by omega); have := f350.o u92; have := f351.o u92; have := f347.o u92; have u93 : rv M279 o0 19 = 0 := (by omega); have := f289.o u93; have := f290.o u93; have u94 : rv M38 o0 19 = 0 := (by omega); have := f54.o u94; have := f55.o u94; have := R414.1 15 _ _ rfl; have := R414.1 16 _ _ rfl; have := R414.1 19 _ _ rfl; omega)), (rO.of E430 K433 (by have := yR.2 6 _ _ rfl 44; omega)), ⟨E430.2.1, fun w9 => by skip; have := E430.w2 w9; omega⟩, (fun w9 => by have u91 : rv M373 o0 19 = 0 := (by omega); have := f383.o u91; have := f384.o u91; have u92 : rv M339 o0 19 = 0 := (by omega); have := f350.o u92; have := f351.o u92; have := f347.o u92; have u93 : rv M279 o0 19 = 0 := (by omega); have := f289.o u93; have := f290.o u93; have u94 : rv M38 o0 19 = 0 := (by omega); have := f54.o u94; have := f55.o u94; omega), (by first | (have := pW0 (Im.o d102) (by omega); have := Z9101.wk; have := pW0 (Im.o d138) (by omega); have := pW0 (Im.o d174) (by omega); have := pW0 (Im.o d210) (by omega); rw [show p_wd pb pn 28 s268 = s268 from p_wd_Z _ (by omega)] at e302; have z_s301 := Im.i (show s301.1 ≠ 0 from (by rw [← e302]; omega)); rw [show p_con pb pn pa 4 (p_oc pb pn pa 4) s301 = s301 from p_con_Z _ (Im.o z_s301)] at e363; have z_s362 := Im.i (show s362.1 ≠ 0 from (by rw [← e363]; exact Im.o z_s301)); rw [show p_sg pb pn 59 s362 = s362 from p_sg_Z _ (Im.o z_s362)] at e398; have z_s397 := Im.i (show s397.1 ≠ 0 from (by rw [← e398]; exact Im.o z_s362)); rw [show p_rul pb pn pa pc9 ps = s397 from (by unfold p_rul; unfold p_bar; (try simp only [e65, e269, e302, e363, e398]); ((repeat' (first | (with_reducible rfl) | split)) <;> (first | ((try simp only [e65, e269, e302, e363, e398]); done) | ((try simp only [e65, e269, e302, e363, e398]); first | exact p_sg_Z _ (Im.o z_s397) | exact p_sg_Z _ (by omega) | exact (p_sg_Z _ (by omega)).symm | omega) | (exfalso; omega))))]; exact Z9436) | (exfalso; have := R414.1 15 _ _ rfl; have := R414.1 16 _ _ rfl; have := R414.1 19 _ _ rfl; omega)), (fun w9 => by have u91 : rv M373 o0 19 = 0 := (by omega); have := f383.o u91; have := f384.o u91; have u92 : rv M339 o0 19 = 0 := (by omega); have := f350.o u92; have := f351.o u92; have := f347.o u92; have u93 : rv M279 o0 19 = 0 := (by omega); have := f289.o u93; have := f290.o u93; have u94 : rv M38 o0 19 = 0 := (by omega); have := f54.o u94; have := f55.o u94; omega)⟩
              · exfalso
                have := R251.1 15 _ _ rfl; have := R251.1 16 _ _ rfl; have := R251.1 19 _ _ rfl; omega
            · refine mv_iconst (v := 3) d_TrustDeskModel_readRule_112 (by decide) ?_
              refine mv_goto (tgt := 117) d_TrustDeskModel_readRule_113 (by decide) ?_
              refine tr_iastR (k := 8) I185 R190 (I185.up h_o0) q214 t195 (by decide) (by decide) (fun lo hi h => by cases h; have e9 : (3 : Int32).toInt = 3 := (by decide); exact ⟨by show ((-1) : Int) ≤ (3 : Int32).toInt; omega, by show (3 : Int32).toInt ≤ (720 : Int); omega⟩) (Or.inl (by decide)) d_TrustDeskModel_readRule_117 (vp_in_iff.mpr (by have := R190.1 15 _ _ rfl; have := R190.1 16 _ _ rfl; have := R190.1 19 _ _ rfl; omega)) (fun M437 I438 K439 R440 E441 A442 V443 => ?_)
              have z444 := (V443 15).trans z196
              have z445 := (V443 16).trans z197
              have z446 := (V443 17).trans z198
              have z447 := (V443 19).trans z199
              have z448 := (V443 22).trans z200
              have z449 := (V443 24).trans z201
              have z450 := (A442 5 (by decide) rfl 44).trans z202
              have z451 := (A442 6 (by decide) rfl 44).trans z203
              have z452 := (A442 7 (by decide) rfl ((880 + ra M0 o0 6 44).toNat)).trans z204
              have z453 := (A442 10 (by decide) rfl ((880 + ra M0 o0 6 44).toNat)).trans z205
              have E454 : rE M0 M437 o0 0 1 := E206.same (fun k _ _ => V443 k) (fun k h1 h2 => A442 k (by omega) (by rcases (show k = 4 ∨ k = 5 by omega) with rfl | rfl <;> rfl))
              have h455 : (880 + ra M0 o0 6 44).toNat = v44.toNatClampNeg := by have := mz_nat9 (i := v44) (by have := R190.1 15 _ _ rfl; have := R190.1 16 _ _ rfl; have := R190.1 19 _ _ rfl; omega); have := R190.1 15 _ _ rfl; have := R190.1 16 _ _ rfl; have := R190.1 19 _ _ rfl; omega
              have z456 : ra M437 o0 8 ((880 + ra M0 o0 6 44).toNat) = 3 := (E441 _).trans (if_pos h455)
              have K457 : rK M0 M437 o0 ((880 + ra M0 o0 6 44).toNat) := K207.st A442 E441 (by have := mz_nat9 (i := v44) (by have := R190.1 15 _ _ rfl; have := R190.1 16 _ _ rfl; have := R190.1 19 _ _ rfl; omega); have := R190.1 15 _ _ rfl; have := R190.1 16 _ _ rfl; have := R190.1 19 _ _ rfl; omega)
              have K458 : nN M437 o0 := K208.same (sA_a A442 (by decide +kernel)) (sF_a V443)
              have Z9459 : pO M437 o0 pb pn pa s64 := Z9209.same (fun k _ _ => V443 k) (V443 23) (A442 13 (by decide) rfl)
              clear z196 z197 z198 z200 z201 z202 z203 z204 z205
              refine mv_aload_n d_TrustDeskModel_readRule_118 rfl rfl ?_
              refine tr_getK (k := 8) (K439 _ 13 8 _ q214) d_TrustDeskModel_readRule_119 f_TrustDeskModel_29_13 ?_
              refine mv_iload_n d_TrustDeskModel_readRule_122 rfl rfl ?_
              refine tr_ialdR (o := o0) (k := 8) I438 (K439 _ 13 8 _ q214) t195 (by decide) d_TrustDeskModel_readRule_123 (vp_in_iff.mpr (by have := R440.1 15 _ _ rfl; have := R440.1 16 _ _ rfl; have := R440.1 19 _ _ rfl; omega)) (fun v460 e461 => ?_)
              have := R440.a (k := 8) rfl (v44 : Int32).toNatClampNeg
              have h462 : (880 + ra M0 o0 6 44).toNat = v44.toNatClampNeg := by have := mz_nat9 (i := v44) (by have := R440.1 15 _ _ rfl; have := R440.1 16 _ _ rfl; have := R440.1 19 _ _ rfl; omega); have := R440.1 15 _ _ rfl; have := R440.1 16 _ _ rfl; have := R440.1 19 _ _ rfl; omega
              have z463 : v460.toInt = ra M437 o0 8 ((880 + ra M0 o0 6 44).toNat) := by rw [e461, h462]
              have : v460.toInt = _ := Eq.trans z463 z456
              refine mv_iconst (v := (-1)) d_TrustDeskModel_readRule_124 (by decide) ?_
              have := mz_hi v460
              refine mv_icmp_neZ (tgt := 133) (a := v460.toInt) (b := (-1)) d_TrustDeskModel_readRule_125 (by decide) rfl (by decide) (fun b464 => ?_) (fun b464 => absurd b464 (by omega))
              refine mv_aload_n d_TrustDeskModel_readRule_133 rfl rfl ?_
              obtain ⟨_, b465, -⟩ := I438.1 _ _ t194
              refine mv_callV (kc1 := 0) (ks1 := 0) (kc' := 0) (ks' := 0) (As := []) (st9 := [.ref o0]) d_TrustDeskModel_readRule_134 lV_TrustDeskModel_230 b465 rfl (mj_enter (by decide) (Nat.le_of_ble_eq_true rfl) ?_) rfl (Nat.le_of_ble_eq_true rfl) (Nat.le_of_ble_eq_true rfl) (Nat.le_of_ble_eq_true rfl) (hst := rfl) (fun _ _ _ h => h)
              refine mv_aload_n d_TrustDeskModel_isWell_0 rfl rfl ?_
              refine tr_getK (k := 19) (K439 _ 13 19 _ q213) d_TrustDeskModel_isWell_1 f_TrustDeskModel_224_13 ?_
              have := mz_hi v35
              refine mv_if_neZ (tgt := 11) (a := v35.toInt) d_TrustDeskModel_isWell_4 (by decide) rfl (fun b466 => absurd b466 (by omega)) (fun b466 => ?_)
              refine mv_iconst (v := 1) d_TrustDeskModel_isWell_7 (by decide) ?_
              refine mv_goto (tgt := 12) d_TrustDeskModel_isWell_8 (by decide) ?_
              refine mv_iret d_TrustDeskModel_isWell_12 rfl (by decide) ?_
              refine mv_if_eq_f (tgt := 144) d_TrustDeskModel_readRule_137 (by decide) (by decide) ?_
              refine mv_aload_n d_TrustDeskModel_readRule_140 rfl rfl ?_
              obtain ⟨_, b473, -⟩ := I438.1 _ _ t194
              refine mv_callV (kc' := 0) (ks' := 0) (As := []) (st9 := [.ref o0]) d_TrustDeskModel_readRule_141 lV_TrustDeskModel_237 b473 rfl (tc_TrustDeskModel_next_x (d := (d + 23)) (x9 := x9) (o0 := o0) t194 R440 Z9459.p I438.start) rfl (Nat.le_of_ble_eq_true rfl) (Nat.le_of_ble_eq_true rfl) (Nat.le_of_ble_eq_true rfl) (hst := rfl) (fun b467r M468 n469 b467 => ?_)
              obtain ⟨T470, J471, rfl, R474, f475, f476, f477⟩ := b467
              have I472 := I438.call J471 (tm_sub (by decide)) (Or.inl rfl)
              have t478 := J471.up t194
              have z479 := (rv_c I438 J471 (I438.up h_o0) (k := 19) rfl).trans z447
              have z480 := (rv_c I438 J471 (I438.up h_o0) (k := 22) rfl).trans z448
              have z481 := (rv_c I438 J471 (I438.up h_o0) (k := 24) rfl).trans z449
              have z482 := (ra_call I438 J471 (I438.up h_o0) (k := 5) rfl rfl rfl 44).trans z450
              have z483 := (ra_call I438 J471 (I438.up h_o0) (k := 6) rfl rfl rfl 44).trans z451
              have z484 := (ra_call I438 J471 (I438.up h_o0) (k := 7) rfl rfl rfl ((880 + ra M0 o0 6 44).toNat)).trans z452
              have z485 := (ra_call I438 J471 (I438.up h_o0) (k := 10) rfl rfl rfl ((880 + ra M0 o0 6 44).toNat)).trans z453
              have z486 := (ra_call I438 J471 (I438.up h_o0) (k := 8) rfl rfl rfl ((880 + ra M0 o0 6 44).toNat)).trans z456
              have h488 : rv M437 o0 16 + 1 ≤ rv M437 o0 15 := (by have := f191.o (by omega); have := E454.1.2.1 (by omega); omega)
              have E487 : rE M0 M468 o0 0 2 := E454.next f475 f476 (rv_c I438 J471 (I438.up h_o0) (k := 19) rfl) (rE_ha I438 J471 (I438.up h_o0) (by decide)) (e := 1) h488 (by decide)
              have K489 : rK M0 M468 o0 ((880 + ra M0 o0 6 44).toNat) := K457.same (sA_c I438 J471 (I438.up h_o0) (by decide +kernel))
              have K490 : nN M468 o0 := K458.same (sA_c I438 J471 (I438.up h_o0) (by decide +kernel)) (sF_c I438 J471 (I438.up h_o0) (by decide +kernel))
              obtain ⟨s491, e492⟩ : ∃ s9 : p_S, p_nx s64 = s9 := ⟨_, rfl⟩
              rw [e492] at f477
              have := f477.w
              clear z448 z449 z450 z451 z452 z453 z456
              have q493 := J471.keep t194 (by decide) (K439 _ 13 6 _ q211)
              have t494 := J471.up t212
              have q495 := J471.keep t194 (by decide) (K439 _ 13 19 _ q213)
              have q496 := J471.keep t194 (by decide) (K439 _ 13 8 _ q214)
              have t497 := J471.up t195
              refine mv_aload_n d_TrustDeskModel_readRule_144 rfl rfl ?_
              refine mv_ldcSw (id := 25) (tx := "if") d_TrustDeskModel_readRule_145 (List.mem_of_getElem? (i := 15) rfl) ?_
              obtain ⟨_, b504, -⟩ := I472.1 _ _ t478
              refine mv_callV (kc' := 0) (ks' := 0) (As := [.ref 25]) (st9 := [.ref 25, .ref o0]) d_TrustDeskModel_readRule_148 lV_TrustDeskModel_329 b504 rfl (tc_TrustDeskModel_wantWord_s1_25_x (d := (d + 19)) (x9 := x9) (o0 := o0) t478 R474 E487.1 (E487.s yS (by decide)) f477 I472.start) rfl (Nat.le_of_ble_eq_true rfl) (Nat.le_of_ble_eq_true rfl) (Nat.le_of_ble_eq_true rfl) (hst := rfl) (fun b498r M499 n500 b498 => ?_)
              obtain ⟨T501, J502, rfl, R505, f506, f507⟩ := b498
              have I503 := I472.call J502 (tm_sub (by decide)) (Or.inl rfl)
              have t508 := J502.up t478
              have := f506.2.1
              have f509 := Im.i f506.w.2
              have f510 := Im.i f506.w2
              have z511 := (rv_c I472 J502 (I472.up h_o0) (k := 22) rfl).trans z480
              have z512 := (rv_c I472 J502 (I472.up h_o0) (k := 24) rfl).trans z481
              have z513 := (ra_call I472 J502 (I472.up h_o0) (k := 5) rfl rfl rfl 44).trans z482
              have z514 := (ra_call I472 J502 (I472.up h_o0) (k := 6) rfl rfl rfl 44).trans z483
              have z515 := (ra_call I472 J502 (I472.up h_o0) (k := 7) rfl rfl rfl ((880 + ra M0 o0 6 44).toNat)).trans z484
              have z516 := (ra_call I472 J502 (I472.up h_o0) (k := 10) rfl rfl rfl ((880 + ra M0 o0 6 44).toNat)).trans z485
              have z517 := (ra_call I472 J502 (I472.up h_o0) (k := 8) rfl rfl rfl ((880 + ra M0 o0 6 44).toNat)).trans z486
              have E518 : rE M0 M499 o0 0 3 := E487.trans f506 (by decide) (yR.2 5 _ _ rfl 44).1 (by decide) (by decide)
              have K519 : rK M0 M499 o0 ((880 + ra M0 o0 6 44).toNat) := K489.same (sA_c I472 J502 (I472.up h_o0) (by decide +kernel))
              have K520 : nN M499 o0 := K490.same (sA_c I472 J502 (I472.up h_o0) (by decide +kernel)) (sF_c I472 J502 (I472.up h_o0) (by decide +kernel))
              obtain ⟨s521, e522⟩ : ∃ s9 : p_S, p_wd pb pn 28 s491 = s9 := ⟨_, rfl⟩
              rw [e522] at f507
              have := f507.w
              clear z480 z481 z482 z483 z484 z485 z486
              have q523 := J502.keep t478 (by decide) q493
              have t524 := J502.up t494
              have q525 := J502.keep t478 (by decide) q496
              have t526 := J502.up t497
              refine mv_aload_n d_TrustDeskModel_readRule_151 rfl rfl ?_
              obtain ⟨a528, q527, t_a528⟩ := tm_atR I503 t508 (k := 11) rfl
              refine tr_getK q527 d_TrustDeskModel_readRule_152 f_TrustDeskModel_38_13 ?_
              refine mv_iload_n d_TrustDeskModel_readRule_155 rfl rfl ?_
              refine mv_aload_n d_TrustDeskModel_readRule_156 rfl rfl ?_
              obtain ⟨a530, q529, t_a530⟩ := tm_atR I503 t508 (k := 5) rfl
              refine tr_getK q529 d_TrustDeskModel_readRule_157 f_TrustDeskModel_20_13 ?_
              refine mv_bipush (v := 44) d_TrustDeskModel_readRule_160 (by decide) ?_
              refine tr_ialdR (o := o0) (k := 5) I503 q529 t_a530 (by decide) d_TrustDeskModel_readRule_162 (by unfold vp_in; decide) (fun v531 e532 => ?_)
              have := R505.a (k := 5) rfl (44 : Int32).toNatClampNeg
              have : v531.toInt = ra M499 o0 5 44 := e532
              have : v531.toInt = _ := Eq.trans e532 z513
              refine tr_iastR (k := 11) I503 R505 (I503.up h_o0) q527 t_a528 (by decide) (by decide) (fun lo hi h => by cases h; have := R505.1 15 _ _ rfl; have := R505.1 16 _ _ rfl; have := R505.1 19 _ _ rfl; exact ⟨by show (0 : Int) ≤ v531.toInt; omega, by show v531.toInt ≤ (400 : Int); omega⟩) (Or.inl (by decide)) d_TrustDeskModel_readRule_163 (vp_in_iff.mpr (by have := R505.1 15 _ _ rfl; have := R505.1 16 _ _ rfl; have := R505.1 19 _ _ rfl; omega)) (fun M533 I534 K535 R536 E537 A538 V539 => ?_)
              have z540 := (V539 15)
              have z541 := (V539 16)
              have z542 := (V539 17)
              have z543 := (V539 19)
              have z544 := (V539 22).trans z511
              have z545 := (V539 24).trans z512
              have z546 := (A538 5 (by decide) rfl 44).trans z513
              have z547 := (A538 6 (by decide) rfl 44).trans z514
              have z548 := (A538 7 (by decide) rfl ((880 + ra M0 o0 6 44).toNat)).trans z515
              have z549 := (A538 10 (by decide) rfl ((880 + ra M0 o0 6 44).toNat)).trans z516
              have z550 := (A538 8 (by decide) rfl ((880 + ra M0 o0 6 44).toNat)).trans z517
              have E551 : rE M0 M533 o0 0 3 := E518.same (fun k _ _ => V539 k) (fun k h1 h2 => A538 k (by omega) (by rcases (show k = 4 ∨ k = 5 by omega) with rfl | rfl <;> rfl))
              have h552 : (880 + ra M0 o0 6 44).toNat = v44.toNatClampNeg := by have := mz_nat9 (i := v44) (by have := R505.1 15 _ _ rfl; have := R505.1 16 _ _ rfl; have := R505.1 19 _ _ rfl; omega); have := R505.1 15 _ _ rfl; have := R505.1 16 _ _ rfl; have := R505.1 19 _ _ rfl; omega
              have z553 : ra M533 o0 11 ((880 + ra M0 o0 6 44).toNat) = v531.toInt := (E537 _).trans (if_pos h552)
              have K554 : rK M0 M533 o0 ((880 + ra M0 o0 6 44).toNat) := K519.st A538 E537 (by have := mz_nat9 (i := v44) (by have := R505.1 15 _ _ rfl; have := R505.1 16 _ _ rfl; have := R505.1 19 _ _ rfl; omega); have := R505.1 15 _ _ rfl; have := R505.1 16 _ _ rfl; have := R505.1 19 _ _ rfl; omega)
              have K555 : nN M533 o0 := K520.same (sA_a A538 (by decide +kernel)) (sF_a V539)
              have F556 : rE M533 M533 o0 0 0 := rE.rf E551.1
              have : ra M533 o0 5 44 = v531.toInt := by omega
              have Z9557 : pO M533 o0 pb pn pa s521 := f507.same (fun k _ _ => V539 k) (V539 23) (A538 13 (by decide) rfl)
              clear z511 z512 z513 z514 z515 z516 z517
              refine mv_aload_n d_TrustDeskModel_readRule_164 rfl rfl ?_
              obtain ⟨_, b564, -⟩ := I534.1 _ _ t508
              refine mv_callV (kc' := 0) (ks' := 0) (As := []) (st9 := [.ref o0]) d_TrustDeskModel_readRule_165 lV_TrustDeskModel_302 b564 rfl (tc_TrustDeskModel_cond_q5_x (d := d) (x9 := x9) (o0 := o0) t508 R536 E551.1 (E551.s yS (by decide)) (Classical.byCases (fun w9 : rv M533 o0 19 = 0 => by have u91 : rv M499 o0 19 = 0 := (by omega); have := f509.o u91; have := f510.o u91; have u92 : rv M38 o0 19 = 0 := (by omega); have := f54.o u92; have := f55.o u92; omega) (fun w9 : ¬ rv M533 o0 19 = 0 => by omega)) Z9557 I534.start) rfl (Nat.le_of_ble_eq_true rfl) (Nat.le_of_ble_eq_true rfl) (Nat.le_of_ble_eq_true rfl) (hst := rfl) (fun b558r M559 n560 b558 => ?_)
              obtain ⟨T561, J562, rfl, R565, f566, f567, f568⟩ := b558
              have I563 := I534.call J562 (tm_sub (by decide)) (Or.inl rfl)
              have t569 := J562.up t508
              have := f566.2.1
              have f570 := Im.i f566.w.2
              have f571 := Im.i f566.w2
              replace f567 := Im.i f567
              have z572 := (rv_c I534 J562 (I534.up h_o0) (k := 24) rfl).trans z545
              have z573 := (ra_call I534 J562 (I534.up h_o0) (k := 6) rfl rfl rfl 44).trans z547
              have z574 := (ra_call I534 J562 (I534.up h_o0) (k := 7) rfl rfl rfl ((880 + ra M0 o0 6 44).toNat)).trans z548
              have z575 := (ra_call I534 J562 (I534.up h_o0) (k := 10) rfl rfl rfl ((880 + ra M0 o0 6 44).toNat)).trans z549
              have z576 := (ra_call I534 J562 (I534.up h_o0) (k := 8) rfl rfl rfl ((880 + ra M0 o0 6 44).toNat)).trans z550
              have z577 := (ra_call I534 J562 (I534.up h_o0) (k := 11) rfl rfl rfl ((880 + ra M0 o0 6 44).toNat)).trans z553
              have E578 : rE M0 M559 o0 1 3 := E551.trans f566 (by decide) (yR.2 5 _ _ rfl 44).1 (by decide) (by decide)
              have K579 : rK M0 M559 o0 ((880 + ra M0 o0 6 44).toNat) := K554.same (sA_c I534 J562 (I534.up h_o0) (by decide +kernel))
              have K580 : nN M559 o0 := K555.same (sA_c I534 J562 (I534.up h_o0) (by decide +kernel)) (sF_c I534 J562 (I534.up h_o0) (by decide +kernel))
              have F581 : rE M533 M559 o0 1 0 := F556.trans f566 (by decide) (R536.2 5 _ _ rfl 44).1 (by decide) (by decide)
              obtain ⟨s582, e583⟩ : ∃ s9 : p_S, p_con pb pn pa 4 (p_oc pb pn pa 4) s521 = s9 := ⟨_, rfl⟩
              rw [e583] at f568
              have := f568.w
              clear z545 z547 z548 z549 z550 z553
              have q584 := J562.keep t508 (by decide) (K535 _ 13 6 _ q523)
              have t585 := J562.up t524
              have q586 := J562.keep t508 (by decide) (K535 _ 13 8 _ q525)
              have t587 := J562.up t526
              have q588 := J562.keep t508 (by decide) (K535 _ 13 11 _ q527)
              have t589 := J562.up t_a528
              have q590 := J562.keep t508 (by decide) (K535 _ 13 5 _ q529)
              have t591 := J562.up t_a530
              refine mv_goto (tgt := 251) d_TrustDeskModel_readRule_168 (by decide) ?_
              refine mv_aload_n d_TrustDeskModel_readRule_251 rfl rfl ?_
              refine mv_bipush (v := 59) d_TrustDeskModel_readRule_252 (by decide) ?_
              obtain ⟨_, b598, -⟩ := I563.1 _ _ t569
              have : (59 : Int32).toInt = 59 := by decide
              refine mv_callV (kc' := 0) (ks' := 0) (As := [.int 59]) (st9 := [.int 59, .ref o0]) d_TrustDeskModel_readRule_254 lV_TrustDeskModel_291 b598 rfl (tc_TrustDeskModel_wantSign_x (d := (d + 22)) (x9 := x9) (o0 := o0) (x1 := 59) t569 R565 E578.1 (E578.s yS (by decide)) (by decide) f568 I563.start) rfl (Nat.le_of_ble_eq_true rfl) (Nat.le_of_ble_eq_true rfl) (Nat.le_of_ble_eq_true rfl) (hst := rfl) (fun b592r M593 n594 b592 => ?_)
              obtain ⟨T595, J596, rfl, R599, f600, f601⟩ := b592
              have I597 := I563.call J596 (tm_sub (by decide)) (Or.inl rfl)
              have t602 := J596.up t569
              have := f600.2.1
              have f603 := Im.i f600.w.2
              have f604 := Im.i f600.w2
              have z605 := (rv_c I563 J596 (I563.up h_o0) (k := 22) rfl)
              have z606 := (rv_c I563 J596 (I563.up h_o0) (k := 24) rfl).trans z572
              have z607 := (ra_call I563 J596 (I563.up h_o0) (k := 5) rfl rfl rfl 44)
              have z608 := (ra_call I563 J596 (I563.up h_o0) (k := 6) rfl rfl rfl 44).trans z573
              have z609 := (ra_call I563 J596 (I563.up h_o0) (k := 7) rfl rfl rfl ((880 + ra M0 o0 6 44).toNat)).trans z574
              have z610 := (ra_call I563 J596 (I563.up h_o0) (k := 10) rfl rfl rfl ((880 + ra M0 o0 6 44).toNat)).trans z575
              have z611 := (ra_call I563 J596 (I563.up h_o0) (k := 8) rfl rfl rfl ((880 + ra M0 o0 6 44).toNat)).trans z576
              have z612 := (ra_call I563 J596 (I563.up h_o0) (k := 11) rfl rfl rfl ((880 + ra M0 o0 6 44).toNat)).trans z577
              have E613 : rE M0 M593 o0 1 4 := E578.trans f600 (by decide) (yR.2 5 _ _ rfl 44).1 (by decide) (by decide)
              have K614 : rK M0 M593 o0 ((880 + ra M0 o0 6 44).toNat) := K579.same (sA_c I563 J596 (I563.up h_o0) (by decide +kernel))
              have K615 : nN M593 o0 := K580.same (sA_c I563 J596 (I563.up h_o0) (by decide +kernel)) (sF_c I563 J596 (I563.up h_o0) (by decide +kernel))
              have F616 : rE M533 M593 o0 1 1 := F581.trans f600 (by decide) (R536.2 5 _ _ rfl 44).1 (by decide) (by decide)
              rw [show (59 : Int32).toInt = 59 from by decide] at f601
              obtain ⟨s617, e618⟩ : ∃ s9 : p_S, p_sg pb pn 59 s582 = s9 := ⟨_, rfl⟩
              rw [e618] at f601
              have := f601.w
              clear z572 z573 z574 z575 z576 z577
              have q619 := J596.keep t569 (by decide) q584
              have t620 := J596.up t585
              have q621 := J596.keep t569 (by decide) q586
              have t622 := J596.up t587
              have q623 := J596.keep t569 (by decide) q588
              have t624 := J596.up t589
              have q625 := J596.keep t569 (by decide) q590
              have t626 := J596.up t591
              refine mv_aload_n d_TrustDeskModel_readRule_257 rfl rfl ?_
              obtain ⟨a628, q627, t_a628⟩ := tm_atR I597 t602 (k := 12) rfl
              refine tr_getK q627 d_TrustDeskModel_readRule_258 f_TrustDeskModel_41_13 ?_
              refine mv_iload_n d_TrustDeskModel_readRule_261 rfl rfl ?_
              refine mv_aload_n d_TrustDeskModel_readRule_262 rfl rfl ?_
              refine tr_getK (k := 5) q625 d_TrustDeskModel_readRule_263 f_TrustDeskModel_20_13 ?_
              refine mv_bipush (v := 44) d_TrustDeskModel_readRule_266 (by decide) ?_
              refine tr_ialdR (o := o0) (k := 5) I597 q625 t626 (by decide) d_TrustDeskModel_readRule_268 (by unfold vp_in; decide) (fun v629 e630 => ?_)
              have := R599.a (k := 5) rfl (44 : Int32).toNatClampNeg
              have : v629.toInt = ra M593 o0 5 44 := e630
              have : v629.toInt = _ := Eq.trans e630 z607
              refine tr_iastR (k := 12) I597 R599 (I597.up h_o0) q627 t_a628 (by decide) (by decide) (fun lo hi h => by cases h; have := R599.1 15 _ _ rfl; have := R599.1 16 _ _ rfl; have := R599.1 19 _ _ rfl; exact ⟨by show (0 : Int) ≤ v629.toInt; omega, by show v629.toInt ≤ (400 : Int); omega⟩) (Or.inl (by decide)) d_TrustDeskModel_readRule_269 (vp_in_iff.mpr (by have := R599.1 15 _ _ rfl; have := R599.1 16 _ _ rfl; have := R599.1 19 _ _ rfl; omega)) (fun M631 I632 K633 R634 E635 A636 V637 => ?_)
              have z638 := (V637 15)
              have z639 := (V637 16)
              have z640 := (V637 17)
              have z641 := (V637 19)
              have z642 := (V637 22).trans z605
              have z643 := (V637 24).trans z606
              have z644 := (A636 5 (by decide) rfl 44).trans z607
              have z645 := (A636 6 (by decide) rfl 44).trans z608
              have z646 := (A636 7 (by decide) rfl ((880 + ra M0 o0 6 44).toNat)).trans z609
              have z647 := (A636 10 (by decide) rfl ((880 + ra M0 o0 6 44).toNat)).trans z610
              have z648 := (A636 8 (by decide) rfl ((880 + ra M0 o0 6 44).toNat)).trans z611
              have z649 := (A636 11 (by decide) rfl ((880 + ra M0 o0 6 44).toNat)).trans z612
              have E650 : rE M0 M631 o0 1 4 := E613.same (fun k _ _ => V637 k) (fun k h1 h2 => A636 k (by omega) (by rcases (show k = 4 ∨ k = 5 by omega) with rfl | rfl <;> rfl))
              have h651 : (880 + ra M0 o0 6 44).toNat = v44.toNatClampNeg := by have := mz_nat9 (i := v44) (by have := R599.1 15 _ _ rfl; have := R599.1 16 _ _ rfl; have := R599.1 19 _ _ rfl; omega); have := R599.1 15 _ _ rfl; have := R599.1 16 _ _ rfl; have := R599.1 19 _ _ rfl; omega
              have z652 : ra M631 o0 12 ((880 + ra M0 o0 6 44).toNat) = v629.toInt := (E635 _).trans (if_pos h651)
              have K653 : rK M0 M631 o0 ((880 + ra M0 o0 6 44).toNat) := K614.st A636 E635 (by have := mz_nat9 (i := v44) (by have := R599.1 15 _ _ rfl; have := R599.1 16 _ _ rfl; have := R599.1 19 _ _ rfl; omega); have := R599.1 15 _ _ rfl; have := R599.1 16 _ _ rfl; have := R599.1 19 _ _ rfl; omega)
              have K654 : nN M631 o0 := K615.same (sA_a A636 (by decide +kernel)) (sF_a V637)
              have F655 : rE M533 M631 o0 1 1 := F616.same (fun k _ _ => V637 k) (fun k h1 h2 => A636 k (by omega) (by rcases (show k = 4 ∨ k = 5 by omega) with rfl | rfl <;> rfl))
              have Z9656 : pO M631 o0 pb pn pa s617 := f601.same (fun k _ _ => V637 k) (V637 23) (A636 13 (by decide) rfl)
              clear z605 z606 z607 z608 z609 z610 z611 z612
              exact mv_vret d_TrustDeskModel_readRule_270 rfl ⟨_, I632, rfl, R634, (rW.of E650.1 (E650.s yS (by decide)) (fun w9 => by have u91 : rv M593 o0 19 = 0 := (by omega); have := f603.o u91; have := f604.o u91; have u92 : rv M559 o0 19 = 0 := (by omega); have := f570.o u92; have := f571.o u92; have := f567.o u92; have u93 : rv M499 o0 19 = 0 := (by omega); have := f509.o u93; have := f510.o u93; have u94 : rv M38 o0 19 = 0 := (by omega); have := f54.o u94; have := f55.o u94; exact rG.step yG yR E650 w9 K653 (by have := yR.2 6 _ _ rfl 44; omega) (by have := R634.1 15 _ _ rfl; have := R634.1 16 _ _ rfl; have := R634.1 19 _ _ rfl; omega) (by have := R634.1 15 _ _ rfl; have := R634.1 16 _ _ rfl; have := R634.1 19 _ _ rfl; omega) (fun _ => rowN.of E551 F655 w9 (by decide) (by decide) (yR.2 5 _ _ rfl 44).1 (by have := R634.1 15 _ _ rfl; have := R634.1 16 _ _ rfl; have := R634.1 19 _ _ rfl; omega) (by have := R634.1 15 _ _ rfl; have := R634.1 16 _ _ rfl; have := R634.1 19 _ _ rfl; omega) (by have := R634.1 15 _ _ rfl; have := R634.1 16 _ _ rfl; have := R634.1 19 _ _ rfl; omega)) (fun h9 => (by have := R634.1 15 _ _ rfl; have := R634.1 16 _ _ rfl; have := R634.1 19 _ _ rfl; omega)) (by have := R634.1 15 _ _ rfl; have := R634.1 16 _ _ rfl; have := R634.1 19 _ _ rfl; omega) K654)), (rO.of E650 K653 (by have := yR.2 6 _ _ rfl 44; omega)), ⟨E650.2.1, fun w9 => by skip; have := E650.w2 w9; omega⟩, (fun w9 => by have u91 : rv M593 o0 19 = 0 := (by omega); have := f603.o u91; have := f604.o u91; have u92 : rv M559 o0 19 = 0 := (by omega); have := f570.o u92; have := f571.o u92; have := f567.o u92; have u93 : rv M499 o0 19 = 0 := (by omega); have := f509.o u93; have := f510.o u93; have u94 : rv M38 o0 19 = 0 := (by omega); have := f54.o u94; have := f55.o u94; omega), (by first | (have := pW0 (Im.o d102) (by omega); have := Z9101.wk; have := pW0 (Im.o d138) (by omega); have := pW0 (Im.o d174) (by omega); have := pW1 (Im.o d210) (by omega); rw [show p_rul pb pn pa pc9 ps = s617 from (by unfold p_rul; unfold p_bar; (try simp only [e65, e492, e522, e583, e618]); ((repeat' (first | (with_reducible rfl) | split)) <;> (first | ((try simp only [e65, e492, e522, e583, e618]); done) | ((try simp only [e65, e492, e522, e583, e618]); first | exact p_sg_Z _ (by omega) | exact (p_sg_Z _ (by omega)).symm | omega) | (exfalso; omega))))]; exact Z9656) | (exfalso; have := R634.1 15 _ _ rfl; have := R634.1 16 _ _ rfl; have := R634.1 19 _ _ rfl; omega)), (fun w9 => by have u91 : rv M593 o0 19 = 0 := (by omega); have := f603.o u91; have := f604.o u91; have u92 : rv M559 o0 19 = 0 := (by omega); have := f570.o u92; have := f571.o u92; have := f567.o u92; have u93 : rv M499 o0 19 = 0 := (by omega); have := f509.o u93; have := f510.o u93; have u94 : rv M38 o0 19 = 0 := (by omega); have := f54.o u94; have := f55.o u94; omega)⟩
          · refine mv_iconst (v := 2) d_TrustDeskModel_readRule_98 (by decide) ?_
            refine mv_goto (tgt := 117) d_TrustDeskModel_readRule_99 (by decide) ?_
            refine tr_iastR (k := 8) I149 R154 (I149.up h_o0) q178 t159 (by decide) (by decide) (fun lo hi h => by cases h; have e9 : (2 : Int32).toInt = 2 := (by decide); exact ⟨by show ((-1) : Int) ≤ (2 : Int32).toInt; omega, by show (2 : Int32).toInt ≤ (720 : Int); omega⟩) (Or.inl (by decide)) d_TrustDeskModel_readRule_117 (vp_in_iff.mpr (by have := R154.1 15 _ _ rfl; have := R154.1 16 _ _ rfl; have := R154.1 19 _ _ rfl; omega)) (fun M657 I658 K659 R660 E661 A662 V663 => ?_)
            have z664 := (V663 15).trans z160
            have z665 := (V663 16).trans z161
            have z666 := (V663 17).trans z162
            have z667 := (V663 19).trans z163
            have z668 := (V663 22).trans z164
            have z669 := (V663 24).trans z165
            have z670 := (A662 5 (by decide) rfl 44).trans z166
            have z671 := (A662 6 (by decide) rfl 44).trans z167
            have z672 := (A662 7 (by decide) rfl ((880 + ra M0 o0 6 44).toNat)).trans z168
            have z673 := (A662 10 (by decide) rfl ((880 + ra M0 o0 6 44).toNat)).trans z169
            have E674 : rE M0 M657 o0 0 1 := E170.same (fun k _ _ => V663 k) (fun k h1 h2 => A662 k (by omega) (by rcases (show k = 4 ∨ k = 5 by omega) with rfl | rfl <;> rfl))
            have h675 : (880 + ra M0 o0 6 44).toNat = v44.toNatClampNeg := by have := mz_nat9 (i := v44) (by have := R154.1 15 _ _ rfl; have := R154.1 16 _ _ rfl; have := R154.1 19 _ _ rfl; omega); have := R154.1 15 _ _ rfl; have := R154.1 16 _ _ rfl; have := R154.1 19 _ _ rfl; omega
            have z676 : ra M657 o0 8 ((880 + ra M0 o0 6 44).toNat) = 2 := (E661 _).trans (if_pos h675)
            have K677 : rK M0 M657 o0 ((880 + ra M0 o0 6 44).toNat) := K171.st A662 E661 (by have := mz_nat9 (i := v44) (by have := R154.1 15 _ _ rfl; have := R154.1 16 _ _ rfl; have := R154.1 19 _ _ rfl; omega); have := R154.1 15 _ _ rfl; have := R154.1 16 _ _ rfl; have := R154.1 19 _ _ rfl; omega)
            have K678 : nN M657 o0 := K172.same (sA_a A662 (by decide +kernel)) (sF_a V663)
            have Z9679 : pO M657 o0 pb pn pa s64 := Z9173.same (fun k _ _ => V663 k) (V663 23) (A662 13 (by decide) rfl)
            clear z160 z161 z162 z164 z165 z166 z167 z168 z169
            refine mv_aload_n d_TrustDeskModel_readRule_118 rfl rfl ?_
            refine tr_getK (k := 8) (K659 _ 13 8 _ q178) d_TrustDeskModel_readRule_119 f_TrustDeskModel_29_13 ?_
            refine mv_iload_n d_TrustDeskModel_readRule_122 rfl rfl ?_
            refine tr_ialdR (o := o0) (k := 8) I658 (K659 _ 13 8 _ q178) t159 (by decide) d_TrustDeskModel_readRule_123 (vp_in_iff.mpr (by have := R660.1 15 _ _ rfl; have := R660.1 16 _ _ rfl; have := R660.1 19 _ _ rfl; omega)) (fun v680 e681 => ?_)
            have := R660.a (k := 8) rfl (v44 : Int32).toNatClampNeg
            have h682 : (880 + ra M0 o0 6 44).toNat = v44.toNatClampNeg := by have := mz_nat9 (i := v44) (by have := R660.1 15 _ _ rfl; have := R660.1 16 _ _ rfl; have := R660.1 19 _ _ rfl; omega); have := R660.1 15 _ _ rfl; have := R660.1 16 _ _ rfl; have := R660.1 19 _ _ rfl; omega
            have z683 : v680.toInt = ra M657 o0 8 ((880 + ra M0 o0 6 44).toNat) := by rw [e681, h682]
            have : v680.toInt = _ := Eq.trans z683 z676
            refine mv_iconst (v := (-1)) d_TrustDeskModel_readRule_124 (by decide) ?_
            have := mz_hi v680
            refine mv_icmp_neZ (tgt := 133) (a := v680.toInt) (b := (-1)) d_TrustDeskModel_readRule_125 (by decide) rfl (by decide) (fun b684 => ?_) (fun b684 => absurd b684 (by omega))
            refine mv_aload_n d_TrustDeskModel_readRule_133 rfl rfl ?_
            obtain ⟨_, b685, -⟩ := I658.1 _ _ t158
            refine mv_callV (kc1 := 0) (ks1 := 0) (kc' := 0) (ks' := 0) (As := []) (st9 := [.ref o0]) d_TrustDeskModel_readRule_134 lV_TrustDeskModel_230 b685 rfl (mj_enter (by decide) (Nat.le_of_ble_eq_true rfl) ?_) rfl (Nat.le_of_ble_eq_true rfl) (Nat.le_of_ble_eq_true rfl) (Nat.le_of_ble_eq_true rfl) (hst := rfl) (fun _ _ _ h => h)
            refine mv_aload_n d_TrustDeskModel_isWell_0 rfl rfl ?_
            refine tr_getK (k := 19) (K659 _ 13 19 _ q177) d_TrustDeskModel_isWell_1 f_TrustDeskModel_224_13 ?_
            have := mz_hi v35
            refine mv_if_neZ (tgt := 11) (a := v35.toInt) d_TrustDeskModel_isWell_4 (by decide) rfl (fun b686 => absurd b686 (by omega)) (fun b686 => ?_)
            refine mv_iconst (v := 1) d_TrustDeskModel_isWell_7 (by decide) ?_
            refine mv_goto (tgt := 12) d_TrustDeskModel_isWell_8 (by decide) ?_
            refine mv_iret d_TrustDeskModel_isWell_12 rfl (by decide) ?_
            refine mv_if_eq_f (tgt := 144) d_TrustDeskModel_readRule_137 (by decide) (by decide) ?_
            refine mv_aload_n d_TrustDeskModel_readRule_140 rfl rfl ?_
            obtain ⟨_, b693, -⟩ := I658.1 _ _ t158
            refine mv_callV (kc' := 0) (ks' := 0) (As := []) (st9 := [.ref o0]) d_TrustDeskModel_readRule_141 lV_TrustDeskModel_237 b693 rfl (tc_TrustDeskModel_next_x (d := (d + 23)) (x9 := x9) (o0 := o0) t158 R660 Z9679.p I658.start) rfl (Nat.le_of_ble_eq_true rfl) (Nat.le_of_ble_eq_true rfl) (Nat.le_of_ble_eq_true rfl) (hst := rfl) (fun b687r M688 n689 b687 => ?_)
            obtain ⟨T690, J691, rfl, R694, f695, f696, f697⟩ := b687
            have I692 := I658.call J691 (tm_sub (by decide)) (Or.inl rfl)
            have t698 := J691.up t158
            have z699 := (rv_c I658 J691 (I658.up h_o0) (k := 19) rfl).trans z667
            have z700 := (rv_c I658 J691 (I658.up h_o0) (k := 22) rfl).trans z668
            have z701 := (rv_c I658 J691 (I658.up h_o0) (k := 24) rfl).trans z669
            have z702 := (ra_call I658 J691 (I658.up h_o0) (k := 5) rfl rfl rfl 44).trans z670
            have z703 := (ra_call I658 J691 (I658.up h_o0) (k := 6) rfl rfl rfl 44).trans z671
            have z704 := (ra_call I658 J691 (I658.up h_o0) (k := 7) rfl rfl rfl ((880 + ra M0 o0 6 44).toNat)).trans z672
            have z705 := (ra_call I658 J691 (I658.up h_o0) (k := 10) rfl rfl rfl ((880 + ra M0 o0 6 44).toNat)).trans z673
            have z706 := (ra_call I658 J691 (I658.up h_o0) (k := 8) rfl rfl rfl ((880 + ra M0 o0 6 44).toNat)).trans z676
            have h708 : rv M657 o0 16 + 1 ≤ rv M657 o0 15 := (by have := f155.o (by omega); have := E674.1.2.1 (by omega); omega)
            have E707 : rE M0 M688 o0 0 2 := E674.next f695 f696 (rv_c I658 J691 (I658.up h_o0) (k := 19) rfl) (rE_ha I658 J691 (I658.up h_o0) (by decide)) (e := 1) h708 (by decide)
            have K709 : rK M0 M688 o0 ((880 + ra M0 o0 6 44).toNat) := K677.same (sA_c I658 J691 (I658.up h_o0) (by decide +kernel))
            have K710 : nN M688 o0 := K678.same (sA_c I658 J691 (I658.up h_o0) (by decide +kernel)) (sF_c I658 J691 (I658.up h_o0) (by decide +kernel))
            obtain ⟨s711, e712⟩ : ∃ s9 : p_S, p_nx s64 = s9 := ⟨_, rfl⟩
            rw [e712] at f697
            have := f697.w
            clear z668 z669 z670 z671 z672 z673 z676
            have q713 := J691.keep t158 (by decide) (K659 _ 13 6 _ q175)
            have t714 := J691.up t176
            have q715 := J691.keep t158 (by decide) (K659 _ 13 19 _ q177)
            have q716 := J691.keep t158 (by decide) (K659 _ 13 8 _ q178)
            have t717 := J691.up t159
            refine mv_aload_n d_TrustDeskModel_readRule_144 rfl rfl ?_
            refine mv_ldcSw (id := 25) (tx := "if") d_TrustDeskModel_readRule_145 (List.mem_of_getElem? (i := 15) rfl) ?_
            obtain ⟨_, b724, -⟩ := I692.1 _ _ t698
            refine mv_callV (kc' := 0) (ks' := 0) (As := [.ref 25]) (st9 := [.ref 25, .ref o0]) d_TrustDeskModel_readRule_148 lV_TrustDeskModel_329 b724 rfl (tc_TrustDeskModel_wantWord_s1_25_x (d := (d + 19)) (x9 := x9) (o0 := o0) t698 R694 E707.1 (E707.s yS (by decide)) f697 I692.start) rfl (Nat.le_of_ble_eq_true rfl) (Nat.le_of_ble_eq_true rfl) (Nat.le_of_ble_eq_true rfl) (hst := rfl) (fun b718r M719 n720 b718 => ?_)
            obtain ⟨T721, J722, rfl, R725, f726, f727⟩ := b718
            have I723 := I692.call J722 (tm_sub (by decide)) (Or.inl rfl)
            have t728 := J722.up t698
            have := f726.2.1
            have f729 := Im.i f726.w.2
            have f730 := Im.i f726.w2
            have z731 := (rv_c I692 J722 (I692.up h_o0) (k := 22) rfl).trans z700
            have z732 := (rv_c I692 J722 (I692.up h_o0) (k := 24) rfl).trans z701
            have z733 := (ra_call I692 J722 (I692.up h_o0) (k := 5) rfl rfl rfl 44).trans z702
            have z734 := (ra_call I692 J722 (I692.up h_o0) (k := 6) rfl rfl rfl 44).trans z703
            have z735 := (ra_call I692 J722 (I692.up h_o0) (k := 7) rfl rfl rfl ((880 + ra M0 o0 6 44).toNat)).trans z704
            have z736 := (ra_call I692 J722 (I692.up h_o0) (k := 10) rfl rfl rfl ((880 + ra M0 o0 6 44).toNat)).trans z705
            have z737 := (ra_call I692 J722 (I692.up h_o0) (k := 8) rfl rfl rfl ((880 + ra M0 o0 6 44).toNat)).trans z706
            have E738 : rE M0 M719 o0 0 3 := E707.trans f726 (by decide) (yR.2 5 _ _ rfl 44).1 (by decide) (by decide)
            have K739 : rK M0 M719 o0 ((880 + ra M0 o0 6 44).toNat) := K709.same (sA_c I692 J722 (I692.up h_o0) (by decide +kernel))
            have K740 : nN M719 o0 := K710.same (sA_c I692 J722 (I692.up h_o0) (by decide +kernel)) (sF_c I692 J722 (I692.up h_o0) (by decide +kernel))
            obtain ⟨s741, e742⟩ : ∃ s9 : p_S, p_wd pb pn 28 s711 = s9 := ⟨_, rfl⟩
            rw [e742] at f727
            have := f727.w
            clear z700 z701 z702 z703 z704 z705 z706
            have q743 := J722.keep t698 (by decide) q713
            have t744 := J722.up t714
            have q745 := J722.keep t698 (by decide) q716
            have t746 := J722.up t717
            refine mv_aload_n d_TrustDeskModel_readRule_151 rfl rfl ?_
            obtain ⟨a748, q747, t_a748⟩ := tm_atR I723 t728 (k := 11) rfl
            refine tr_getK q747 d_TrustDeskModel_readRule_152 f_TrustDeskModel_38_13 ?_
            refine mv_iload_n d_TrustDeskModel_readRule_155 rfl rfl ?_
            refine mv_aload_n d_TrustDeskModel_readRule_156 rfl rfl ?_
            obtain ⟨a750, q749, t_a750⟩ := tm_atR I723 t728 (k := 5) rfl
            refine tr_getK q749 d_TrustDeskModel_readRule_157 f_TrustDeskModel_20_13 ?_
            refine mv_bipush (v := 44) d_TrustDeskModel_readRule_160 (by decide) ?_
            refine tr_ialdR (o := o0) (k := 5) I723 q749 t_a750 (by decide) d_TrustDeskModel_readRule_162 (by unfold vp_in; decide) (fun v751 e752 => ?_)
            have := R725.a (k := 5) rfl (44 : Int32).toNatClampNeg
            have : v751.toInt = ra M719 o0 5 44 := e752
            have : v751.toInt = _ := Eq.trans e752 z733
            refine tr_iastR (k := 11) I723 R725 (I723.up h_o0) q747 t_a748 (by decide) (by decide) (fun lo hi h => by cases h; have := R725.1 15 _ _ rfl; have := R725.1 16 _ _ rfl; have := R725.1 19 _ _ rfl; exact ⟨by show (0 : Int) ≤ v751.toInt; omega, by show v751.toInt ≤ (400 : Int); omega⟩) (Or.inl (by decide)) d_TrustDeskModel_readRule_163 (vp_in_iff.mpr (by have := R725.1 15 _ _ rfl; have := R725.1 16 _ _ rfl; have := R725.1 19 _ _ rfl; omega)) (fun M753 I754 K755 R756 E757 A758 V759 => ?_)
            have z760 := (V759 15)
            have z761 := (V759 16)
            have z762 := (V759 17)
            have z763 := (V759 19)
            have z764 := (V759 22).trans z731
            have z765 := (V759 24).trans z732
            have z766 := (A758 5 (by decide) rfl 44).trans z733
            have z767 := (A758 6 (by decide) rfl 44).trans z734
            have z768 := (A758 7 (by decide) rfl ((880 + ra M0 o0 6 44).toNat)).trans z735
            have z769 := (A758 10 (by decide) rfl ((880 + ra M0 o0 6 44).toNat)).trans z736
            have z770 := (A758 8 (by decide) rfl ((880 + ra M0 o0 6 44).toNat)).trans z737
            have E771 : rE M0 M753 o0 0 3 := E738.same (fun k _ _ => V759 k) (fun k h1 h2 => A758 k (by omega) (by rcases (show k = 4 ∨ k = 5 by omega) with rfl | rfl <;> rfl))
            have h772 : (880 + ra M0 o0 6 44).toNat = v44.toNatClampNeg := by have := mz_nat9 (i := v44) (by have := R725.1 15 _ _ rfl; have := R725.1 16 _ _ rfl; have := R725.1 19 _ _ rfl; omega); have := R725.1 15 _ _ rfl; have := R725.1 16 _ _ rfl; have := R725.1 19 _ _ rfl; omega
            have z773 : ra M753 o0 11 ((880 + ra M0 o0 6 44).toNat) = v751.toInt := (E757 _).trans (if_pos h772)
            have K774 : rK M0 M753 o0 ((880 + ra M0 o0 6 44).toNat) := K739.st A758 E757 (by have := mz_nat9 (i := v44) (by have := R725.1 15 _ _ rfl; have := R725.1 16 _ _ rfl; have := R725.1 19 _ _ rfl; omega); have := R725.1 15 _ _ rfl; have := R725.1 16 _ _ rfl; have := R725.1 19 _ _ rfl; omega)
            have K775 : nN M753 o0 := K740.same (sA_a A758 (by decide +kernel)) (sF_a V759)
            have F776 : rE M753 M753 o0 0 0 := rE.rf E771.1
            have : ra M753 o0 5 44 = v751.toInt := by omega
            have Z9777 : pO M753 o0 pb pn pa s741 := f727.same (fun k _ _ => V759 k) (V759 23) (A758 13 (by decide) rfl)
            clear z731 z732 z733 z734 z735 z736 z737
            refine mv_aload_n d_TrustDeskModel_readRule_164 rfl rfl ?_
            obtain ⟨_, b784, -⟩ := I754.1 _ _ t728
            refine mv_callV (kc' := 0) (ks' := 0) (As := []) (st9 := [.ref o0]) d_TrustDeskModel_readRule_165 lV_TrustDeskModel_302 b784 rfl (tc_TrustDeskModel_cond_q5_x (d := d) (x9 := x9) (o0 := o0) t728 R756 E771.1 (E771.s yS (by decide)) (Classical.byCases (fun w9 : rv M753 o0 19 = 0 => by have u91 : rv M719 o0 19 = 0 := (by omega); have := f729.o u91; have := f730.o u91; have u92 : rv M38 o0 19 = 0 := (by omega); have := f54.o u92; have := f55.o u92; omega) (fun w9 : ¬ rv M753 o0 19 = 0 => by omega)) Z9777 I754.start) rfl (Nat.le_of_ble_eq_true rfl) (Nat.le_of_ble_eq_true rfl) (Nat.le_of_ble_eq_true rfl) (hst := rfl) (fun b778r M779 n780 b778 => ?_)
            obtain ⟨T781, J782, rfl, R785, f786, f787, f788⟩ := b778
            have I783 := I754.call J782 (tm_sub (by decide)) (Or.inl rfl)
            have t789 := J782.up t728
            have := f786.2.1
            have f790 := Im.i f786.w.2
            have f791 := Im.i f786.w2
            replace f787 := Im.i f787
            have z792 := (rv_c I754 J782 (I754.up h_o0) (k := 24) rfl).trans z765
            have z793 := (ra_call I754 J782 (I754.up h_o0) (k := 6) rfl rfl rfl 44).trans z767
            have z794 := (ra_call I754 J782 (I754.up h_o0) (k := 7) rfl rfl rfl ((880 + ra M0 o0 6 44).toNat)).trans z768
            have z795 := (ra_call I754 J782 (I754.up h_o0) (k := 10) rfl rfl rfl ((880 + ra M0 o0 6 44).toNat)).trans z769
            have z796 := (ra_call I754 J782 (I754.up h_o0) (k := 8) rfl rfl rfl ((880 + ra M0 o0 6 44).toNat)).trans z770
            have z797 := (ra_call I754 J782 (I754.up h_o0) (k := 11) rfl rfl rfl ((880 + ra M0 o0 6 44).toNat)).trans z773
            have E798 : rE M0 M779 o0 1 3 := E771.trans f786 (by decide) (yR.2 5 _ _ rfl 44).1 (by decide) (by decide)
            have K799 : rK M0 M779 o0 ((880 + ra M0 o0 6 44).toNat) := K774.same (sA_c I754 J782 (I754.up h_o0) (by decide +kernel))
            have K800 : nN M779 o0 := K775.same (sA_c I754 J782 (I754.up h_o0) (by decide +kernel)) (sF_c I754 J782 (I754.up h_o0) (by decide +kernel))
            have F801 : rE M753 M779 o0 1 0 := F776.trans f786 (by decide) (R756.2 5 _ _ rfl 44).1 (by decide) (by decide)
            obtain ⟨s802, e803⟩ : ∃ s9 : p_S, p_con pb pn pa 4 (p_oc pb pn pa 4) s741 = s9 := ⟨_, rfl⟩
            rw [e803] at f788
            have := f788.w
            clear z765 z767 z768 z769 z770 z773
            have q804 := J782.keep t728 (by decide) (K755 _ 13 6 _ q743)
            have t805 := J782.up t744
            have q806 := J782.keep t728 (by decide) (K755 _ 13 8 _ q745)
            have t807 := J782.up t746
            have q808 := J782.keep t728 (by decide) (K755 _ 13 11 _ q747)
            have t809 := J782.up t_a748
            have q810 := J782.keep t728 (by decide) (K755 _ 13 5 _ q749)
            have t811 := J782.up t_a750
            refine mv_goto (tgt := 251) d_TrustDeskModel_readRule_168 (by decide) ?_
            refine mv_aload_n d_TrustDeskModel_readRule_251 rfl rfl ?_
            refine mv_bipush (v := 59) d_TrustDeskModel_readRule_252 (by decide) ?_
            obtain ⟨_, b818, -⟩ := I783.1 _ _ t789
            have : (59 : Int32).toInt = 59 := by decide
            refine mv_callV (kc' := 0) (ks' := 0) (As := [.int 59]) (st9 := [.int 59, .ref o0]) d_TrustDeskModel_readRule_254 lV_TrustDeskModel_291 b818 rfl (tc_TrustDeskModel_wantSign_x (d := (d + 22)) (x9 := x9) (o0 := o0) (x1 := 59) t789 R785 E798.1 (E798.s yS (by decide)) (by decide) f788 I783.start) rfl (Nat.le_of_ble_eq_true rfl) (Nat.le_of_ble_eq_true rfl) (Nat.le_of_ble_eq_true rfl) (hst := rfl) (fun b812r M813 n814 b812 => ?_)
            obtain ⟨T815, J816, rfl, R819, f820, f821⟩ := b812
            have I817 := I783.call J816 (tm_sub (by decide)) (Or.inl rfl)
            have t822 := J816.up t789
            have := f820.2.1
            have f823 := Im.i f820.w.2
            have f824 := Im.i f820.w2
            have z825 := (rv_c I783 J816 (I783.up h_o0) (k := 22) rfl)
            have z826 := (rv_c I783 J816 (I783.up h_o0) (k := 24) rfl).trans z792
            have z827 := (ra_call I783 J816 (I783.up h_o0) (k := 5) rfl rfl rfl 44)
            have z828 := (ra_call I783 J816 (I783.up h_o0) (k := 6) rfl rfl rfl 44).trans z793
            have z829 := (ra_call I783 J816 (I783.up h_o0) (k := 7) rfl rfl rfl ((880 + ra M0 o0 6 44).toNat)).trans z794
            have z830 := (ra_call I783 J816 (I783.up h_o0) (k := 10) rfl rfl rfl ((880 + ra M0 o0 6 44).toNat)).trans z795
            have z831 := (ra_call I783 J816 (I783.up h_o0) (k := 8) rfl rfl rfl ((880 + ra M0 o0 6 44).toNat)).trans z796
            have z832 := (ra_call I783 J816 (I783.up h_o0) (k := 11) rfl rfl rfl ((880 + ra M0 o0 6 44).toNat)).trans z797
            have E833 : rE M0 M813 o0 1 4 := E798.trans f820 (by decide) (yR.2 5 _ _ rfl 44).1 (by decide) (by decide)
            have K834 : rK M0 M813 o0 ((880 + ra M0 o0 6 44).toNat) := K799.same (sA_c I783 J816 (I783.up h_o0) (by decide +kernel))
            have K835 : nN M813 o0 := K800.same (sA_c I783 J816 (I783.up h_o0) (by decide +kernel)) (sF_c I783 J816 (I783.up h_o0) (by decide +kernel))
            have F836 : rE M753 M813 o0 1 1 := F801.trans f820 (by decide) (R756.2 5 _ _ rfl 44).1 (by decide) (by decide)
            rw [show (59 : Int32).toInt = 59 from by decide] at f821
            obtain ⟨s837, e838⟩ : ∃ s9 : p_S, p_sg pb pn 59 s802 = s9 := ⟨_, rfl⟩
            rw [e838] at f821
            have := f821.w
            clear z792 z793 z794 z795 z796 z797
            have q839 := J816.keep t789 (by decide) q804
            have t840 := J816.up t805
            have q841 := J816.keep t789 (by decide) q806
            have t842 := J816.up t807
            have q843 := J816.keep t789 (by decide) q808
            have t844 := J816.up t809
            have q845 := J816.keep t789 (by decide) q810
            have t846 := J816.up t811
            refine mv_aload_n d_TrustDeskModel_readRule_257 rfl rfl ?_
            obtain ⟨a848, q847, t_a848⟩ := tm_atR I817 t822 (k := 12) rfl
            refine tr_getK q847 d_TrustDeskModel_readRule_258 f_TrustDeskModel_41_13 ?_
            refine mv_iload_n d_TrustDeskModel_readRule_261 rfl rfl ?_
            refine mv_aload_n d_TrustDeskModel_readRule_262 rfl rfl ?_
            refine tr_getK (k := 5) q845 d_TrustDeskModel_readRule_263 f_TrustDeskModel_20_13 ?_
            refine mv_bipush (v := 44) d_TrustDeskModel_readRule_266 (by decide) ?_
            refine tr_ialdR (o := o0) (k := 5) I817 q845 t846 (by decide) d_TrustDeskModel_readRule_268 (by unfold vp_in; decide) (fun v849 e850 => ?_)
            have := R819.a (k := 5) rfl (44 : Int32).toNatClampNeg
            have : v849.toInt = ra M813 o0 5 44 := e850
            have : v849.toInt = _ := Eq.trans e850 z827
            refine tr_iastR (k := 12) I817 R819 (I817.up h_o0) q847 t_a848 (by decide) (by decide) (fun lo hi h => by cases h; have := R819.1 15 _ _ rfl; have := R819.1 16 _ _ rfl; have := R819.1 19 _ _ rfl; exact ⟨by show (0 : Int) ≤ v849.toInt; omega, by show v849.toInt ≤ (400 : Int); omega⟩) (Or.inl (by decide)) d_TrustDeskModel_readRule_269 (vp_in_iff.mpr (by have := R819.1 15 _ _ rfl; have := R819.1 16 _ _ rfl; have := R819.1 19 _ _ rfl; omega)) (fun M851 I852 K853 R854 E855 A856 V857 => ?_)
            have z858 := (V857 15)
            have z859 := (V857 16)
            have z860 := (V857 17)
            have z861 := (V857 19)
            have z862 := (V857 22).trans z825
            have z863 := (V857 24).trans z826
            have z864 := (A856 5 (by decide) rfl 44).trans z827
            have z865 := (A856 6 (by decide) rfl 44).trans z828
            have z866 := (A856 7 (by decide) rfl ((880 + ra M0 o0 6 44).toNat)).trans z829
            have z867 := (A856 10 (by decide) rfl ((880 + ra M0 o0 6 44).toNat)).trans z830
            have z868 := (A856 8 (by decide) rfl ((880 + ra M0 o0 6 44).toNat)).trans z831
            have z869 := (A856 11 (by decide) rfl ((880 + ra M0 o0 6 44).toNat)).trans z832
            have E870 : rE M0 M851 o0 1 4 := E833.same (fun k _ _ => V857 k) (fun k h1 h2 => A856 k (by omega) (by rcases (show k = 4 ∨ k = 5 by omega) with rfl | rfl <;> rfl))
            have h871 : (880 + ra M0 o0 6 44).toNat = v44.toNatClampNeg := by have := mz_nat9 (i := v44) (by have := R819.1 15 _ _ rfl; have := R819.1 16 _ _ rfl; have := R819.1 19 _ _ rfl; omega); have := R819.1 15 _ _ rfl; have := R819.1 16 _ _ rfl; have := R819.1 19 _ _ rfl; omega
            have z872 : ra M851 o0 12 ((880 + ra M0 o0 6 44).toNat) = v849.toInt := (E855 _).trans (if_pos h871)
            have K873 : rK M0 M851 o0 ((880 + ra M0 o0 6 44).toNat) := K834.st A856 E855 (by have := mz_nat9 (i := v44) (by have := R819.1 15 _ _ rfl; have := R819.1 16 _ _ rfl; have := R819.1 19 _ _ rfl; omega); have := R819.1 15 _ _ rfl; have := R819.1 16 _ _ rfl; have := R819.1 19 _ _ rfl; omega)
            have K874 : nN M851 o0 := K835.same (sA_a A856 (by decide +kernel)) (sF_a V857)
            have F875 : rE M753 M851 o0 1 1 := F836.same (fun k _ _ => V857 k) (fun k h1 h2 => A856 k (by omega) (by rcases (show k = 4 ∨ k = 5 by omega) with rfl | rfl <;> rfl))
            have Z9876 : pO M851 o0 pb pn pa s837 := f821.same (fun k _ _ => V857 k) (V857 23) (A856 13 (by decide) rfl)
            clear z825 z826 z827 z828 z829 z830 z831 z832
            exact mv_vret d_TrustDeskModel_readRule_270 rfl ⟨_, I852, rfl, R854, (rW.of E870.1 (E870.s yS (by decide)) (fun w9 => by have u91 : rv M813 o0 19 = 0 := (by omega); have := f823.o u91; have := f824.o u91; have u92 : rv M779 o0 19 = 0 := (by omega); have := f790.o u92; have := f791.o u92; have := f787.o u92; have u93 : rv M719 o0 19 = 0 := (by omega); have := f729.o u93; have := f730.o u93; have u94 : rv M38 o0 19 = 0 := (by omega); have := f54.o u94; have := f55.o u94; exact rG.step yG yR E870 w9 K873 (by have := yR.2 6 _ _ rfl 44; omega) (by have := R854.1 15 _ _ rfl; have := R854.1 16 _ _ rfl; have := R854.1 19 _ _ rfl; omega) (by have := R854.1 15 _ _ rfl; have := R854.1 16 _ _ rfl; have := R854.1 19 _ _ rfl; omega) (fun _ => rowN.of E771 F875 w9 (by decide) (by decide) (yR.2 5 _ _ rfl 44).1 (by have := R854.1 15 _ _ rfl; have := R854.1 16 _ _ rfl; have := R854.1 19 _ _ rfl; omega) (by have := R854.1 15 _ _ rfl; have := R854.1 16 _ _ rfl; have := R854.1 19 _ _ rfl; omega) (by have := R854.1 15 _ _ rfl; have := R854.1 16 _ _ rfl; have := R854.1 19 _ _ rfl; omega)) (fun h9 => (by have := R854.1 15 _ _ rfl; have := R854.1 16 _ _ rfl; have := R854.1 19 _ _ rfl; omega)) (by have := R854.1 15 _ _ rfl; have := R854.1 16 _ _ rfl; have := R854.1 19 _ _ rfl; omega) K874)), (rO.of E870 K873 (by have := yR.2 6 _ _ rfl 44; omega)), ⟨E870.2.1, fun w9 => by skip; have := E870.w2 w9; omega⟩, (fun w9 => by have u91 : rv M813 o0 19 = 0 := (by omega); have := f823.o u91; have := f824.o u91; have u92 : rv M779 o0 19 = 0 := (by omega); have := f790.o u92; have := f791.o u92; have := f787.o u92; have u93 : rv M719 o0 19 = 0 := (by omega); have := f729.o u93; have := f730.o u93; have u94 : rv M38 o0 19 = 0 := (by omega); have := f54.o u94; have := f55.o u94; omega), (by first | (have := pW0 (Im.o d102) (by omega); have := Z9101.wk; have := pW0 (Im.o d138) (by omega); have := pW1 (Im.o d174) (by omega); rw [show p_rul pb pn pa pc9 ps = s837 from (by unfold p_rul; unfold p_bar; (try simp only [e65, e712, e742, e803, e838]); ((repeat' (first | (with_reducible rfl) | split)) <;> (first | ((try simp only [e65, e712, e742, e803, e838]); done) | ((try simp only [e65, e712, e742, e803, e838]); first | exact p_sg_Z _ (by omega) | exact (p_sg_Z _ (by omega)).symm | omega) | (exfalso; omega))))]; exact Z9876) | (exfalso; have := R854.1 15 _ _ rfl; have := R854.1 16 _ _ rfl; have := R854.1 19 _ _ rfl; omega)), (fun w9 => by have u91 : rv M813 o0 19 = 0 := (by omega); have := f823.o u91; have := f824.o u91; have u92 : rv M779 o0 19 = 0 := (by omega); have := f790.o u92; have := f791.o u92; have := f787.o u92; have u93 : rv M719 o0 19 = 0 := (by omega); have := f729.o u93; have := f730.o u93; have u94 : rv M38 o0 19 = 0 := (by omega); have := f54.o u94; have := f55.o u94; omega)⟩
        · refine mv_iconst (v := 1) d_TrustDeskModel_readRule_84 (by decide) ?_
          refine mv_goto (tgt := 117) d_TrustDeskModel_readRule_85 (by decide) ?_
          refine tr_iastR (k := 8) I113 R118 (I113.up h_o0) q142 t123 (by decide) (by decide) (fun lo hi h => by cases h; have e9 : (1 : Int32).toInt = 1 := (by decide); exact ⟨by show ((-1) : Int) ≤ (1 : Int32).toInt; omega, by show (1 : Int32).toInt ≤ (720 : Int); omega⟩) (Or.inl (by decide)) d_TrustDeskModel_readRule_117 (vp_in_iff.mpr (by have := R118.1 15 _ _ rfl; have := R118.1 16 _ _ rfl; have := R118.1 19 _ _ rfl; omega)) (fun M877 I878 K879 R880 E881 A882 V883 => ?_)
          have z884 := (V883 15).trans z124
          have z885 := (V883 16).trans z125
          have z886 := (V883 17).trans z126
          have z887 := (V883 19).trans z127
          have z888 := (V883 22).trans z128
          have z889 := (V883 24).trans z129
          have z890 := (A882 5 (by decide) rfl 44).trans z130
          have z891 := (A882 6 (by decide) rfl 44).trans z131
          have z892 := (A882 7 (by decide) rfl ((880 + ra M0 o0 6 44).toNat)).trans z132
          have z893 := (A882 10 (by decide) rfl ((880 + ra M0 o0 6 44).toNat)).trans z133
          have E894 : rE M0 M877 o0 0 1 := E134.same (fun k _ _ => V883 k) (fun k h1 h2 => A882 k (by omega) (by rcases (show k = 4 ∨ k = 5 by omega) with rfl | rfl <;> rfl))
          have h895 : (880 + ra M0 o0 6 44).toNat = v44.toNatClampNeg := by have := mz_nat9 (i := v44) (by have := R118.1 15 _ _ rfl; have := R118.1 16 _ _ rfl; have := R118.1 19 _ _ rfl; omega); have := R118.1 15 _ _ rfl; have := R118.1 16 _ _ rfl; have := R118.1 19 _ _ rfl; omega
          have z896 : ra M877 o0 8 ((880 + ra M0 o0 6 44).toNat) = 1 := (E881 _).trans (if_pos h895)
          have K897 : rK M0 M877 o0 ((880 + ra M0 o0 6 44).toNat) := K135.st A882 E881 (by have := mz_nat9 (i := v44) (by have := R118.1 15 _ _ rfl; have := R118.1 16 _ _ rfl; have := R118.1 19 _ _ rfl; omega); have := R118.1 15 _ _ rfl; have := R118.1 16 _ _ rfl; have := R118.1 19 _ _ rfl; omega)
          have K898 : nN M877 o0 := K136.same (sA_a A882 (by decide +kernel)) (sF_a V883)
          have Z9899 : pO M877 o0 pb pn pa s64 := Z9137.same (fun k _ _ => V883 k) (V883 23) (A882 13 (by decide) rfl)
          clear z124 z125 z126 z128 z129 z130 z131 z132 z133
          refine mv_aload_n d_TrustDeskModel_readRule_118 rfl rfl ?_
          refine tr_getK (k := 8) (K879 _ 13 8 _ q142) d_TrustDeskModel_readRule_119 f_TrustDeskModel_29_13 ?_
          refine mv_iload_n d_TrustDeskModel_readRule_122 rfl rfl ?_
          refine tr_ialdR (o := o0) (k := 8) I878 (K879 _ 13 8 _ q142) t123 (by decide) d_TrustDeskModel_readRule_123 (vp_in_iff.mpr (by have := R880.1 15 _ _ rfl; have := R880.1 16 _ _ rfl; have := R880.1 19 _ _ rfl; omega)) (fun v900 e901 => ?_)
          have := R880.a (k := 8) rfl (v44 : Int32).toNatClampNeg
          have h902 : (880 + ra M0 o0 6 44).toNat = v44.toNatClampNeg := by have := mz_nat9 (i := v44) (by have := R880.1 15 _ _ rfl; have := R880.1 16 _ _ rfl; have := R880.1 19 _ _ rfl; omega); have := R880.1 15 _ _ rfl; have := R880.1 16 _ _ rfl; have := R880.1 19 _ _ rfl; omega
          have z903 : v900.toInt = ra M877 o0 8 ((880 + ra M0 o0 6 44).toNat) := by rw [e901, h902]
          have : v900.toInt = _ := Eq.trans z903 z896
          refine mv_iconst (v := (-1)) d_TrustDeskModel_readRule_124 (by decide) ?_
          have := mz_hi v900
          refine mv_icmp_neZ (tgt := 133) (a := v900.toInt) (b := (-1)) d_TrustDeskModel_readRule_125 (by decide) rfl (by decide) (fun b904 => ?_) (fun b904 => absurd b904 (by omega))
          refine mv_aload_n d_TrustDeskModel_readRule_133 rfl rfl ?_
          obtain ⟨_, b905, -⟩ := I878.1 _ _ t122
          refine mv_callV (kc1 := 0) (ks1 := 0) (kc' := 0) (ks' := 0) (As := []) (st9 := [.ref o0]) d_TrustDeskModel_readRule_134 lV_TrustDeskModel_230 b905 rfl (mj_enter (by decide) (Nat.le_of_ble_eq_true rfl) ?_) rfl (Nat.le_of_ble_eq_true rfl) (Nat.le_of_ble_eq_true rfl) (Nat.le_of_ble_eq_true rfl) (hst := rfl) (fun _ _ _ h => h)
          refine mv_aload_n d_TrustDeskModel_isWell_0 rfl rfl ?_
          refine tr_getK (k := 19) (K879 _ 13 19 _ q141) d_TrustDeskModel_isWell_1 f_TrustDeskModel_224_13 ?_
          have := mz_hi v35
          refine mv_if_neZ (tgt := 11) (a := v35.toInt) d_TrustDeskModel_isWell_4 (by decide) rfl (fun b906 => absurd b906 (by omega)) (fun b906 => ?_)
          refine mv_iconst (v := 1) d_TrustDeskModel_isWell_7 (by decide) ?_
          refine mv_goto (tgt := 12) d_TrustDeskModel_isWell_8 (by decide) ?_
          refine mv_iret d_TrustDeskModel_isWell_12 rfl (by decide) ?_
          refine mv_if_eq_f (tgt := 144) d_TrustDeskModel_readRule_137 (by decide) (by decide) ?_
          refine mv_aload_n d_TrustDeskModel_readRule_140 rfl rfl ?_
          obtain ⟨_, b913, -⟩ := I878.1 _ _ t122
          refine mv_callV (kc' := 0) (ks' := 0) (As := []) (st9 := [.ref o0]) d_TrustDeskModel_readRule_141 lV_TrustDeskModel_237 b913 rfl (tc_TrustDeskModel_next_x (d := (d + 23)) (x9 := x9) (o0 := o0) t122 R880 Z9899.p I878.start) rfl (Nat.le_of_ble_eq_true rfl) (Nat.le_of_ble_eq_true rfl) (Nat.le_of_ble_eq_true rfl) (hst := rfl) (fun b907r M908 n909 b907 => ?_)
          obtain ⟨T910, J911, rfl, R914, f915, f916, f917⟩ := b907
          have I912 := I878.call J911 (tm_sub (by decide)) (Or.inl rfl)
          have t918 := J911.up t122
          have z919 := (rv_c I878 J911 (I878.up h_o0) (k := 19) rfl).trans z887
          have z920 := (rv_c I878 J911 (I878.up h_o0) (k := 22) rfl).trans z888
          have z921 := (rv_c I878 J911 (I878.up h_o0) (k := 24) rfl).trans z889
          have z922 := (ra_call I878 J911 (I878.up h_o0) (k := 5) rfl rfl rfl 44).trans z890
          have z923 := (ra_call I878 J911 (I878.up h_o0) (k := 6) rfl rfl rfl 44).trans z891
          have z924 := (ra_call I878 J911 (I878.up h_o0) (k := 7) rfl rfl rfl ((880 + ra M0 o0 6 44).toNat)).trans z892
          have z925 := (ra_call I878 J911 (I878.up h_o0) (k := 10) rfl rfl rfl ((880 + ra M0 o0 6 44).toNat)).trans z893
          have z926 := (ra_call I878 J911 (I878.up h_o0) (k := 8) rfl rfl rfl ((880 + ra M0 o0 6 44).toNat)).trans z896
          have h928 : rv M877 o0 16 + 1 ≤ rv M877 o0 15 := (by have := f119.o (by omega); have := E894.1.2.1 (by omega); omega)
          have E927 : rE M0 M908 o0 0 2 := E894.next f915 f916 (rv_c I878 J911 (I878.up h_o0) (k := 19) rfl) (rE_ha I878 J911 (I878.up h_o0) (by decide)) (e := 1) h928 (by decide)
          have K929 : rK M0 M908 o0 ((880 + ra M0 o0 6 44).toNat) := K897.same (sA_c I878 J911 (I878.up h_o0) (by decide +kernel))
          have K930 : nN M908 o0 := K898.same (sA_c I878 J911 (I878.up h_o0) (by decide +kernel)) (sF_c I878 J911 (I878.up h_o0) (by decide +kernel))
          obtain ⟨s931, e932⟩ : ∃ s9 : p_S, p_nx s64 = s9 := ⟨_, rfl⟩
          rw [e932] at f917
          have := f917.w
          clear z888 z889 z890 z891 z892 z893 z896
          have q933 := J911.keep t122 (by decide) (K879 _ 13 6 _ q139)
          have t934 := J911.up t140
          have q935 := J911.keep t122 (by decide) (K879 _ 13 19 _ q141)
          have q936 := J911.keep t122 (by decide) (K879 _ 13 8 _ q142)
          have t937 := J911.up t123
          refine mv_aload_n d_TrustDeskModel_readRule_144 rfl rfl ?_
          refine mv_ldcSw (id := 25) (tx := "if") d_TrustDeskModel_readRule_145 (List.mem_of_getElem? (i := 15) rfl) ?_
          obtain ⟨_, b944, -⟩ := I912.1 _ _ t918
          refine mv_callV (kc' := 0) (ks' := 0) (As := [.ref 25]) (st9 := [.ref 25, .ref o0]) d_TrustDeskModel_readRule_148 lV_TrustDeskModel_329 b944 rfl (tc_TrustDeskModel_wantWord_s1_25_x (d := (d + 19)) (x9 := x9) (o0 := o0) t918 R914 E927.1 (E927.s yS (by decide)) f917 I912.start) rfl (Nat.le_of_ble_eq_true rfl) (Nat.le_of_ble_eq_true rfl) (Nat.le_of_ble_eq_true rfl) (hst := rfl) (fun b938r M939 n940 b938 => ?_)
          obtain ⟨T941, J942, rfl, R945, f946, f947⟩ := b938
          have I943 := I912.call J942 (tm_sub (by decide)) (Or.inl rfl)
          have t948 := J942.up t918
          have := f946.2.1
          have f949 := Im.i f946.w.2
          have f950 := Im.i f946.w2
          have z951 := (rv_c I912 J942 (I912.up h_o0) (k := 22) rfl).trans z920
          have z952 := (rv_c I912 J942 (I912.up h_o0) (k := 24) rfl).trans z921
          have z953 := (ra_call I912 J942 (I912.up h_o0) (k := 5) rfl rfl rfl 44).trans z922
          have z954 := (ra_call I912 J942 (I912.up h_o0) (k := 6) rfl rfl rfl 44).trans z923
          have z955 := (ra_call I912 J942 (I912.up h_o0) (k := 7) rfl rfl rfl ((880 + ra M0 o0 6 44).toNat)).trans z924
          have z956 := (ra_call I912 J942 (I912.up h_o0) (k := 10) rfl rfl rfl ((880 + ra M0 o0 6 44).toNat)).trans z925
          have z957 := (ra_call I912 J942 (I912.up h_o0) (k := 8) rfl rfl rfl ((880 + ra M0 o0 6 44).toNat)).trans z926
          have E958 : rE M0 M939 o0 0 3 := E927.trans f946 (by decide) (yR.2 5 _ _ rfl 44).1 (by decide) (by decide)
          have K959 : rK M0 M939 o0 ((880 + ra M0 o0 6 44).toNat) := K929.same (sA_c I912 J942 (I912.up h_o0) (by decide +kernel))
          have K960 : nN M939 o0 := K930.same (sA_c I912 J942 (I912.up h_o0) (by decide +kernel)) (sF_c I912 J942 (I912.up h_o0) (by decide +kernel))
          obtain ⟨s961, e962⟩ : ∃ s9 : p_S, p_wd pb pn 28 s931 = s9 := ⟨_, rfl⟩
          rw [e962] at f947
          have := f947.w
          clear z920 z921 z922 z923 z924 z925 z926
          have q963 := J942.keep t918 (by decide) q933
          have t964 := J942.up t934
          have q965 := J942.keep t918 (by decide) q936
          have t966 := J942.up t937
          refine mv_aload_n d_TrustDeskModel_readRule_151 rfl rfl ?_
          obtain ⟨a968, q967, t_a968⟩ := tm_atR I943 t948 (k := 11) rfl
          refine tr_getK q967 d_TrustDeskModel_readRule_152 f_TrustDeskModel_38_13 ?_
          refine mv_iload_n d_TrustDeskModel_readRule_155 rfl rfl ?_
          refine mv_aload_n d_TrustDeskModel_readRule_156 rfl rfl ?_
          obtain ⟨a970, q969, t_a970⟩ := tm_atR I943 t948 (k := 5) rfl
          refine tr_getK q969 d_TrustDeskModel_readRule_157 f_TrustDeskModel_20_13 ?_
          refine mv_bipush (v := 44) d_TrustDeskModel_readRule_160 (by decide) ?_
          refine tr_ialdR (o := o0) (k := 5) I943 q969 t_a970 (by decide) d_TrustDeskModel_readRule_162 (by unfold vp_in; decide) (fun v971 e972 => ?_)
          have := R945.a (k := 5) rfl (44 : Int32).toNatClampNeg
          have : v971.toInt = ra M939 o0 5 44 := e972
          have : v971.toInt = _ := Eq.trans e972 z953
          refine tr_iastR (k := 11) I943 R945 (I943.up h_o0) q967 t_a968 (by decide) (by decide) (fun lo hi h => by cases h; have := R945.1 15 _ _ rfl; have := R945.1 16 _ _ rfl; have := R945.1 19 _ _ rfl; exact ⟨by show (0 : Int) ≤ v971.toInt; omega, by show v971.toInt ≤ (400 : Int); omega⟩) (Or.inl (by decide)) d_TrustDeskModel_readRule_163 (vp_in_iff.mpr (by have := R945.1 15 _ _ rfl; have := R945.1 16 _ _ rfl; have := R945.1 19 _ _ rfl; omega)) (fun M973 I974 K975 R976 E977 A978 V979 => ?_)
          have z980 := (V979 15)
          have z981 := (V979 16)
          have z982 := (V979 17)
          have z983 := (V979 19)
          have z984 := (V979 22).trans z951
          have z985 := (V979 24).trans z952
          have z986 := (A978 5 (by decide) rfl 44).trans z953
          have z987 := (A978 6 (by decide) rfl 44).trans z954
          have z988 := (A978 7 (by decide) rfl ((880 + ra M0 o0 6 44).toNat)).trans z955
          have z989 := (A978 10 (by decide) rfl ((880 + ra M0 o0 6 44).toNat)).trans z956
          have z990 := (A978 8 (by decide) rfl ((880 + ra M0 o0 6 44).toNat)).trans z957
          have E991 : rE M0 M973 o0 0 3 := E958.same (fun k _ _ => V979 k) (fun k h1 h2 => A978 k (by omega) (by rcases (show k = 4 ∨ k = 5 by omega) with rfl | rfl <;> rfl))
          have h992 : (880 + ra M0 o0 6 44).toNat = v44.toNatClampNeg := by have := mz_nat9 (i := v44) (by have := R945.1 15 _ _ rfl; have := R945.1 16 _ _ rfl; have := R945.1 19 _ _ rfl; omega); have := R945.1 15 _ _ rfl; have := R945.1 16 _ _ rfl; have := R945.1 19 _ _ rfl; omega
          have z993 : ra M973 o0 11 ((880 + ra M0 o0 6 44).toNat) = v971.toInt := (E977 _).trans (if_pos h992)
          have K994 : rK M0 M973 o0 ((880 + ra M0 o0 6 44).toNat) := K959.st A978 E977 (by have := mz_nat9 (i := v44) (by have := R945.1 15 _ _ rfl; have := R945.1 16 _ _ rfl; have := R945.1 19 _ _ rfl; omega); have := R945.1 15 _ _ rfl; have := R945.1 16 _ _ rfl; have := R945.1 19 _ _ rfl; omega)
          have K995 : nN M973 o0 := K960.same (sA_a A978 (by decide +kernel)) (sF_a V979)
          have F996 : rE M973 M973 o0 0 0 := rE.rf E991.1
          have : ra M973 o0 5 44 = v971.toInt := by omega
          have Z9997 : pO M973 o0 pb pn pa s961 := f947.same (fun k _ _ => V979 k) (V979 23) (A978 13 (by decide) rfl)
          clear z951 z952 z953 z954 z955 z956 z957
          refine mv_aload_n d_TrustDeskModel_readRule_164 rfl rfl ?_
          obtain ⟨_, b1004, -⟩ := I974.1 _ _ t948
          refine mv_callV (kc' := 0) (ks' := 0) (As := []) (st9 := [.ref o0]) d_TrustDeskModel_readRule_165 lV_TrustDeskModel_302 b1004 rfl (tc_TrustDeskModel_cond_q5_x (d := d) (x9 := x9) (o0 := o0) t948 R976 E991.1 (E991.s yS (by decide)) (Classical.byCases (fun w9 : rv M973 o0 19 = 0 => by have u91 : rv M939 o0 19 = 0 := (by omega); have := f949.o u91; have := f950.o u91; have u92 : rv M38 o0 19 = 0 := (by omega); have := f54.o u92; have := f55.o u92; omega) (fun w9 : ¬ rv M973 o0 19 = 0 => by omega)) Z9997 I974.start) rfl (Nat.le_of_ble_eq_true rfl) (Nat.le_of_ble_eq_true rfl) (Nat.le_of_ble_eq_true rfl) (hst := rfl) (fun b998r M999 n1000 b998 => ?_)
          obtain ⟨T1001, J1002, rfl, R1005, f1006, f1007, f1008⟩ := b998
          have I1003 := I974.call J1002 (tm_sub (by decide)) (Or.inl rfl)
          have t1009 := J1002.up t948
          have := f1006.2.1
          have f1010 := Im.i f1006.w.2
          have f1011 := Im.i f1006.w2
          replace f1007 := Im.i f1007
          have z1012 := (rv_c I974 J1002 (I974.up h_o0) (k := 24) rfl).trans z985
          have z1013 := (ra_call I974 J1002 (I974.up h_o0) (k := 6) rfl rfl rfl 44).trans z987
          have z1014 := (ra_call I974 J1002 (I974.up h_o0) (k := 7) rfl rfl rfl ((880 + ra M0 o0 6 44).toNat)).trans z988
          have z1015 := (ra_call I974 J1002 (I974.up h_o0) (k := 10) rfl rfl rfl ((880 + ra M0 o0 6 44).toNat)).trans z989
          have z1016 := (ra_call I974 J1002 (I974.up h_o0) (k := 8) rfl rfl rfl ((880 + ra M0 o0 6 44).toNat)).trans z990
          have z1017 := (ra_call I974 J1002 (I974.up h_o0) (k := 11) rfl rfl rfl ((880 + ra M0 o0 6 44).toNat)).trans z993
          have E1018 : rE M0 M999 o0 1 3 := E991.trans f1006 (by decide) (yR.2 5 _ _ rfl 44).1 (by decide) (by decide)
          have K1019 : rK M0 M999 o0 ((880 + ra M0 o0 6 44).toNat) := K994.same (sA_c I974 J1002 (I974.up h_o0) (by decide +kernel))
          have K1020 : nN M999 o0 := K995.same (sA_c I974 J1002 (I974.up h_o0) (by decide +kernel)) (sF_c I974 J1002 (I974.up h_o0) (by decide +kernel))
          have F1021 : rE M973 M999 o0 1 0 := F996.trans f1006 (by decide) (R976.2 5 _ _ rfl 44).1 (by decide) (by decide)
          obtain ⟨s1022, e1023⟩ : ∃ s9 : p_S, p_con pb pn pa 4 (p_oc pb pn pa 4) s961 = s9 := ⟨_, rfl⟩
          rw [e1023] at f1008
          have := f1008.w
          clear z985 z987 z988 z989 z990 z993
          have q1024 := J1002.keep t948 (by decide) (K975 _ 13 6 _ q963)
          have t1025 := J1002.up t964
          have q1026 := J1002.keep t948 (by decide) (K975 _ 13 8 _ q965)
          have t1027 := J1002.up t966
          have q1028 := J1002.keep t948 (by decide) (K975 _ 13 11 _ q967)
          have t1029 := J1002.up t_a968
          have q1030 := J1002.keep t948 (by decide) (K975 _ 13 5 _ q969)
          have t1031 := J1002.up t_a970
          refine mv_goto (tgt := 251) d_TrustDeskModel_readRule_168 (by decide) ?_
          refine mv_aload_n d_TrustDeskModel_readRule_251 rfl rfl ?_
          refine mv_bipush (v := 59) d_TrustDeskModel_readRule_252 (by decide) ?_
          obtain ⟨_, b1038, -⟩ := I1003.1 _ _ t1009
          have : (59 : Int32).toInt = 59 := by decide
          refine mv_callV (kc' := 0) (ks' := 0) (As := [.int 59]) (st9 := [.int 59, .ref o0]) d_TrustDeskModel_readRule_254 lV_TrustDeskModel_291 b1038 rfl (tc_TrustDeskModel_wantSign_x (d := (d + 22)) (x9 := x9) (o0 := o0) (x1 := 59) t1009 R1005 E1018.1 (E1018.s yS (by decide)) (by decide) f1008 I1003.start) rfl (Nat.le_of_ble_eq_true rfl) (Nat.le_of_ble_eq_true rfl) (Nat.le_of_ble_eq_true rfl) (hst := rfl) (fun b1032r M1033 n1034 b1032 => ?_)
          obtain ⟨T1035, J1036, rfl, R1039, f1040, f1041⟩ := b1032
          have I1037 := I1003.call J1036 (tm_sub (by decide)) (Or.inl rfl)
          have t1042 := J1036.up t1009
          have := f1040.2.1
          have f1043 := Im.i f1040.w.2
          have f1044 := Im.i f1040.w2
          have z1045 := (rv_c I1003 J1036 (I1003.up h_o0) (k := 22) rfl)
          have z1046 := (rv_c I1003 J1036 (I1003.up h_o0) (k := 24) rfl).trans z1012
          have z1047 := (ra_call I1003 J1036 (I1003.up h_o0) (k := 5) rfl rfl rfl 44)
          have z1048 := (ra_call I1003 J1036 (I1003.up h_o0) (k := 6) rfl rfl rfl 44).trans z1013
          have z1049 := (ra_call I1003 J1036 (I1003.up h_o0) (k := 7) rfl rfl rfl ((880 + ra M0 o0 6 44).toNat)).trans z1014
          have z1050 := (ra_call I1003 J1036 (I1003.up h_o0) (k := 10) rfl rfl rfl ((880 + ra M0 o0 6 44).toNat)).trans z1015
          have z1051 := (ra_call I1003 J1036 (I1003.up h_o0) (k := 8) rfl rfl rfl ((880 + ra M0 o0 6 44).toNat)).trans z1016
          have z1052 := (ra_call I1003 J1036 (I1003.up h_o0) (k := 11) rfl rfl rfl ((880 + ra M0 o0 6 44).toNat)).trans z1017
          have E1053 : rE M0 M1033 o0 1 4 := E1018.trans f1040 (by decide) (yR.2 5 _ _ rfl 44).1 (by decide) (by decide)
          have K1054 : rK M0 M1033 o0 ((880 + ra M0 o0 6 44).toNat) := K1019.same (sA_c I1003 J1036 (I1003.up h_o0) (by decide +kernel))
          have K1055 : nN M1033 o0 := K1020.same (sA_c I1003 J1036 (I1003.up h_o0) (by decide +kernel)) (sF_c I1003 J1036 (I1003.up h_o0) (by decide +kernel))
          have F1056 : rE M973 M1033 o0 1 1 := F1021.trans f1040 (by decide) (R976.2 5 _ _ rfl 44).1 (by decide) (by decide)
          rw [show (59 : Int32).toInt = 59 from by decide] at f1041
          obtain ⟨s1057, e1058⟩ : ∃ s9 : p_S, p_sg pb pn 59 s1022 = s9 := ⟨_, rfl⟩
          rw [e1058] at f1041
          have := f1041.w
          clear z1012 z1013 z1014 z1015 z1016 z1017
          have q1059 := J1036.keep t1009 (by decide) q1024
          have t1060 := J1036.up t1025
          have q1061 := J1036.keep t1009 (by decide) q1026
          have t1062 := J1036.up t1027
          have q1063 := J1036.keep t1009 (by decide) q1028
          have t1064 := J1036.up t1029
          have q1065 := J1036.keep t1009 (by decide) q1030
          have t1066 := J1036.up t1031
          refine mv_aload_n d_TrustDeskModel_readRule_257 rfl rfl ?_
          obtain ⟨a1068, q1067, t_a1068⟩ := tm_atR I1037 t1042 (k := 12) rfl
          refine tr_getK q1067 d_TrustDeskModel_readRule_258 f_TrustDeskModel_41_13 ?_
          refine mv_iload_n d_TrustDeskModel_readRule_261 rfl rfl ?_
          refine mv_aload_n d_TrustDeskModel_readRule_262 rfl rfl ?_
          refine tr_getK (k := 5) q1065 d_TrustDeskModel_readRule_263 f_TrustDeskModel_20_13 ?_
          refine mv_bipush (v := 44) d_TrustDeskModel_readRule_266 (by decide) ?_
          refine tr_ialdR (o := o0) (k := 5) I1037 q1065 t1066 (by decide) d_TrustDeskModel_readRule_268 (by unfold vp_in; decide) (fun v1069 e1070 => ?_)
          have := R1039.a (k := 5) rfl (44 : Int32).toNatClampNeg
          have : v1069.toInt = ra M1033 o0 5 44 := e1070
          have : v1069.toInt = _ := Eq.trans e1070 z1047
          refine tr_iastR (k := 12) I1037 R1039 (I1037.up h_o0) q1067 t_a1068 (by decide) (by decide) (fun lo hi h => by cases h; have := R1039.1 15 _ _ rfl; have := R1039.1 16 _ _ rfl; have := R1039.1 19 _ _ rfl; exact ⟨by show (0 : Int) ≤ v1069.toInt; omega, by show v1069.toInt ≤ (400 : Int); omega⟩) (Or.inl (by decide)) d_TrustDeskModel_readRule_269 (vp_in_iff.mpr (by have := R1039.1 15 _ _ rfl; have := R1039.1 16 _ _ rfl; have := R1039.1 19 _ _ rfl; omega)) (fun M1071 I1072 K1073 R1074 E1075 A1076 V1077 => ?_)
          have z1078 := (V1077 15)
          have z1079 := (V1077 16)
          have z1080 := (V1077 17)
          have z1081 := (V1077 19)
          have z1082 := (V1077 22).trans z1045
          have z1083 := (V1077 24).trans z1046
          have z1084 := (A1076 5 (by decide) rfl 44).trans z1047
          have z1085 := (A1076 6 (by decide) rfl 44).trans z1048
          have z1086 := (A1076 7 (by decide) rfl ((880 + ra M0 o0 6 44).toNat)).trans z1049
          have z1087 := (A1076 10 (by decide) rfl ((880 + ra M0 o0 6 44).toNat)).trans z1050
          have z1088 := (A1076 8 (by decide) rfl ((880 + ra M0 o0 6 44).toNat)).trans z1051
          have z1089 := (A1076 11 (by decide) rfl ((880 + ra M0 o0 6 44).toNat)).trans z1052
          have E1090 : rE M0 M1071 o0 1 4 := E1053.same (fun k _ _ => V1077 k) (fun k h1 h2 => A1076 k (by omega) (by rcases (show k = 4 ∨ k = 5 by omega) with rfl | rfl <;> rfl))
          have h1091 : (880 + ra M0 o0 6 44).toNat = v44.toNatClampNeg := by have := mz_nat9 (i := v44) (by have := R1039.1 15 _ _ rfl; have := R1039.1 16 _ _ rfl; have := R1039.1 19 _ _ rfl; omega); have := R1039.1 15 _ _ rfl; have := R1039.1 16 _ _ rfl; have := R1039.1 19 _ _ rfl; omega
          have z1092 : ra M1071 o0 12 ((880 + ra M0 o0 6 44).toNat) = v1069.toInt := (E1075 _).trans (if_pos h1091)
          have K1093 : rK M0 M1071 o0 ((880 + ra M0 o0 6 44).toNat) := K1054.st A1076 E1075 (by have := mz_nat9 (i := v44) (by have := R1039.1 15 _ _ rfl; have := R1039.1 16 _ _ rfl; have := R1039.1 19 _ _ rfl; omega); have := R1039.1 15 _ _ rfl; have := R1039.1 16 _ _ rfl; have := R1039.1 19 _ _ rfl; omega)
          have K1094 : nN M1071 o0 := K1055.same (sA_a A1076 (by decide +kernel)) (sF_a V1077)
          have F1095 : rE M973 M1071 o0 1 1 := F1056.same (fun k _ _ => V1077 k) (fun k h1 h2 => A1076 k (by omega) (by rcases (show k = 4 ∨ k = 5 by omega) with rfl | rfl <;> rfl))
          have Z91096 : pO M1071 o0 pb pn pa s1057 := f1041.same (fun k _ _ => V1077 k) (V1077 23) (A1076 13 (by decide) rfl)
          clear z1045 z1046 z1047 z1048 z1049 z1050 z1051 z1052
          exact mv_vret d_TrustDeskModel_readRule_270 rfl ⟨_, I1072, rfl, R1074, (rW.of E1090.1 (E1090.s yS (by decide)) (fun w9 => by have u91 : rv M1033 o0 19 = 0 := (by omega); have := f1043.o u91; have := f1044.o u91; have u92 : rv M999 o0 19 = 0 := (by omega); have := f1010.o u92; have := f1011.o u92; have := f1007.o u92; have u93 : rv M939 o0 19 = 0 := (by omega); have := f949.o u93; have := f950.o u93; have u94 : rv M38 o0 19 = 0 := (by omega); have := f54.o u94; have := f55.o u94; exact rG.step yG yR E1090 w9 K1093 (by have := yR.2 6 _ _ rfl 44; omega) (by have := R1074.1 15 _ _ rfl; have := R1074.1 16 _ _ rfl; have := R1074.1 19 _ _ rfl; omega) (by have := R1074.1 15 _ _ rfl; have := R1074.1 16 _ _ rfl; have := R1074.1 19 _ _ rfl; omega) (fun _ => rowN.of E991 F1095 w9 (by decide) (by decide) (yR.2 5 _ _ rfl 44).1 (by have := R1074.1 15 _ _ rfl; have := R1074.1 16 _ _ rfl; have := R1074.1 19 _ _ rfl; omega) (by have := R1074.1 15 _ _ rfl; have := R1074.1 16 _ _ rfl; have := R1074.1 19 _ _ rfl; omega) (by have := R1074.1 15 _ _ rfl; have := R1074.1 16 _ _ rfl; have := R1074.1 19 _ _ rfl; omega)) (fun h9 => (by have := R1074.1 15 _ _ rfl; have := R1074.1 16 _ _ rfl; have := R1074.1 19 _ _ rfl; omega)) (by have := R1074.1 15 _ _ rfl; have := R1074.1 16 _ _ rfl; have := R1074.1 19 _ _ rfl; omega) K1094)), (rO.of E1090 K1093 (by have := yR.2 6 _ _ rfl 44; omega)), ⟨E1090.2.1, fun w9 => by skip; have := E1090.w2 w9; omega⟩, (fun w9 => by have u91 : rv M1033 o0 19 = 0 := (by omega); have := f1043.o u91; have := f1044.o u91; have u92 : rv M999 o0 19 = 0 := (by omega); have := f1010.o u92; have := f1011.o u92; have := f1007.o u92; have u93 : rv M939 o0 19 = 0 := (by omega); have := f949.o u93; have := f950.o u93; have u94 : rv M38 o0 19 = 0 := (by omega); have := f54.o u94; have := f55.o u94; omega), (by first | (have := pW0 (Im.o d102) (by omega); have := Z9101.wk; have := pW1 (Im.o d138) (by omega); rw [show p_rul pb pn pa pc9 ps = s1057 from (by unfold p_rul; unfold p_bar; (try simp only [e65, e932, e962, e1023, e1058]); ((repeat' (first | (with_reducible rfl) | split)) <;> (first | ((try simp only [e65, e932, e962, e1023, e1058]); done) | ((try simp only [e65, e932, e962, e1023, e1058]); first | exact p_sg_Z _ (by omega) | exact (p_sg_Z _ (by omega)).symm | omega) | (exfalso; omega))))]; exact Z91096) | (exfalso; have := R1074.1 15 _ _ rfl; have := R1074.1 16 _ _ rfl; have := R1074.1 19 _ _ rfl; omega)), (fun w9 => by have u91 : rv M1033 o0 19 = 0 := (by omega); have := f1043.o u91; have := f1044.o u91; have u92 : rv M999 o0 19 = 0 := (by omega); have := f1010.o u92; have := f1011.o u92; have := f1007.o u92; have u93 : rv M939 o0 19 = 0 := (by omega); have := f949.o u93; have := f950.o u93; have u94 : rv M38 o0 19 = 0 := (by omega); have := f54.o u94; have := f55.o u94; omega)⟩
      · refine mv_iconst (v := 0) d_TrustDeskModel_readRule_70 (by decide) ?_
        refine mv_goto (tgt := 117) d_TrustDeskModel_readRule_71 (by decide) ?_
        refine tr_iastR (k := 8) I77 R82 (I77.up h_o0) q106 t87 (by decide) (by decide) (fun lo hi h => by cases h; have e9 : (0 : Int32).toInt = 0 := (by decide); exact ⟨by show ((-1) : Int) ≤ (0 : Int32).toInt; omega, by show (0 : Int32).toInt ≤ (720 : Int); omega⟩) (Or.inl (by decide)) d_TrustDeskModel_readRule_117 (vp_in_iff.mpr (by have := R82.1 15 _ _ rfl; have := R82.1 16 _ _ rfl; have := R82.1 19 _ _ rfl; omega)) (fun M1097 I1098 K1099 R1100 E1101 A1102 V1103 => ?_)
        have z1104 := (V1103 15).trans z88
        have z1105 := (V1103 16).trans z89
        have z1106 := (V1103 17).trans z90
        have z1107 := (V1103 19).trans z91
        have z1108 := (V1103 22).trans z92
        have z1109 := (V1103 24).trans z93
        have z1110 := (A1102 5 (by decide) rfl 44).trans z94
        have z1111 := (A1102 6 (by decide) rfl 44).trans z95
        have z1112 := (A1102 7 (by decide) rfl ((880 + ra M0 o0 6 44).toNat)).trans z96
        have z1113 := (A1102 10 (by decide) rfl ((880 + ra M0 o0 6 44).toNat)).trans z97
        have E1114 : rE M0 M1097 o0 0 1 := E98.same (fun k _ _ => V1103 k) (fun k h1 h2 => A1102 k (by omega) (by rcases (show k = 4 ∨ k = 5 by omega) with rfl | rfl <;> rfl))
        have h1115 : (880 + ra M0 o0 6 44).toNat = v44.toNatClampNeg := by have := mz_nat9 (i := v44) (by have := R82.1 15 _ _ rfl; have := R82.1 16 _ _ rfl; have := R82.1 19 _ _ rfl; omega); have := R82.1 15 _ _ rfl; have := R82.1 16 _ _ rfl; have := R82.1 19 _ _ rfl; omega
        have z1116 : ra M1097 o0 8 ((880 + ra M0 o0 6 44).toNat) = 0 := (E1101 _).trans (if_pos h1115)
        have K1117 : rK M0 M1097 o0 ((880 + ra M0 o0 6 44).toNat) := K99.st A1102 E1101 (by have := mz_nat9 (i := v44) (by have := R82.1 15 _ _ rfl; have := R82.1 16 _ _ rfl; have := R82.1 19 _ _ rfl; omega); have := R82.1 15 _ _ rfl; have := R82.1 16 _ _ rfl; have := R82.1 19 _ _ rfl; omega)
        have K1118 : nN M1097 o0 := K100.same (sA_a A1102 (by decide +kernel)) (sF_a V1103)
        have Z91119 : pO M1097 o0 pb pn pa s64 := Z9101.same (fun k _ _ => V1103 k) (V1103 23) (A1102 13 (by decide) rfl)
        clear z88 z89 z90 z92 z93 z94 z95 z96 z97
        refine mv_aload_n d_TrustDeskModel_readRule_118 rfl rfl ?_
        refine tr_getK (k := 8) (K1099 _ 13 8 _ q106) d_TrustDeskModel_readRule_119 f_TrustDeskModel_29_13 ?_
        refine mv_iload_n d_TrustDeskModel_readRule_122 rfl rfl ?_
        refine tr_ialdR (o := o0) (k := 8) I1098 (K1099 _ 13 8 _ q106) t87 (by decide) d_TrustDeskModel_readRule_123 (vp_in_iff.mpr (by have := R1100.1 15 _ _ rfl; have := R1100.1 16 _ _ rfl; have := R1100.1 19 _ _ rfl; omega)) (fun v1120 e1121 => ?_)
        have := R1100.a (k := 8) rfl (v44 : Int32).toNatClampNeg
        have h1122 : (880 + ra M0 o0 6 44).toNat = v44.toNatClampNeg := by have := mz_nat9 (i := v44) (by have := R1100.1 15 _ _ rfl; have := R1100.1 16 _ _ rfl; have := R1100.1 19 _ _ rfl; omega); have := R1100.1 15 _ _ rfl; have := R1100.1 16 _ _ rfl; have := R1100.1 19 _ _ rfl; omega
        have z1123 : v1120.toInt = ra M1097 o0 8 ((880 + ra M0 o0 6 44).toNat) := by rw [e1121, h1122]
        have : v1120.toInt = _ := Eq.trans z1123 z1116
        refine mv_iconst (v := (-1)) d_TrustDeskModel_readRule_124 (by decide) ?_
        have := mz_hi v1120
        refine mv_icmp_neZ (tgt := 133) (a := v1120.toInt) (b := (-1)) d_TrustDeskModel_readRule_125 (by decide) rfl (by decide) (fun b1124 => ?_) (fun b1124 => absurd b1124 (by omega))
        refine mv_aload_n d_TrustDeskModel_readRule_133 rfl rfl ?_
        obtain ⟨_, b1125, -⟩ := I1098.1 _ _ t86
        refine mv_callV (kc1 := 0) (ks1 := 0) (kc' := 0) (ks' := 0) (As := []) (st9 := [.ref o0]) d_TrustDeskModel_readRule_134 lV_TrustDeskModel_230 b1125 rfl (mj_enter (by decide) (Nat.le_of_ble_eq_true rfl) ?_) rfl (Nat.le_of_ble_eq_true rfl) (Nat.le_of_ble_eq_true rfl) (Nat.le_of_ble_eq_true rfl) (hst := rfl) (fun _ _ _ h => h)
        refine mv_aload_n d_TrustDeskModel_isWell_0 rfl rfl ?_
        refine tr_getK (k := 19) (K1099 _ 13 19 _ q105) d_TrustDeskModel_isWell_1 f_TrustDeskModel_224_13 ?_
        have := mz_hi v35
        refine mv_if_neZ (tgt := 11) (a := v35.toInt) d_TrustDeskModel_isWell_4 (by decide) rfl (fun b1126 => absurd b1126 (by omega)) (fun b1126 => ?_)
        refine mv_iconst (v := 1) d_TrustDeskModel_isWell_7 (by decide) ?_
        refine mv_goto (tgt := 12) d_TrustDeskModel_isWell_8 (by decide) ?_
        refine mv_iret d_TrustDeskModel_isWell_12 rfl (by decide) ?_
        refine mv_if_eq_f (tgt := 144) d_TrustDeskModel_readRule_137 (by decide) (by decide) ?_
        refine mv_aload_n d_TrustDeskModel_readRule_140 rfl rfl ?_
        obtain ⟨_, b1133, -⟩ := I1098.1 _ _ t86
        refine mv_callV (kc' := 0) (ks' := 0) (As := []) (st9 := [.ref o0]) d_TrustDeskModel_readRule_141 lV_TrustDeskModel_237 b1133 rfl (tc_TrustDeskModel_next_x (d := (d + 23)) (x9 := x9) (o0 := o0) t86 R1100 Z91119.p I1098.start) rfl (Nat.le_of_ble_eq_true rfl) (Nat.le_of_ble_eq_true rfl) (Nat.le_of_ble_eq_true rfl) (hst := rfl) (fun b1127r M1128 n1129 b1127 => ?_)
        obtain ⟨T1130, J1131, rfl, R1134, f1135, f1136, f1137⟩ := b1127
        have I1132 := I1098.call J1131 (tm_sub (by decide)) (Or.inl rfl)
        have t1138 := J1131.up t86
        have z1139 := (rv_c I1098 J1131 (I1098.up h_o0) (k := 19) rfl).trans z1107
        have z1140 := (rv_c I1098 J1131 (I1098.up h_o0) (k := 22) rfl).trans z1108
        have z1141 := (rv_c I1098 J1131 (I1098.up h_o0) (k := 24) rfl).trans z1109
        have z1142 := (ra_call I1098 J1131 (I1098.up h_o0) (k := 5) rfl rfl rfl 44).trans z1110
        have z1143 := (ra_call I1098 J1131 (I1098.up h_o0) (k := 6) rfl rfl rfl 44).trans z1111
        have z1144 := (ra_call I1098 J1131 (I1098.up h_o0) (k := 7) rfl rfl rfl ((880 + ra M0 o0 6 44).toNat)).trans z1112
        have z1145 := (ra_call I1098 J1131 (I1098.up h_o0) (k := 10) rfl rfl rfl ((880 + ra M0 o0 6 44).toNat)).trans z1113
        have z1146 := (ra_call I1098 J1131 (I1098.up h_o0) (k := 8) rfl rfl rfl ((880 + ra M0 o0 6 44).toNat)).trans z1116
        have h1148 : rv M1097 o0 16 + 1 ≤ rv M1097 o0 15 := (by have := f83.o (by omega); have := E1114.1.2.1 (by omega); omega)
        have E1147 : rE M0 M1128 o0 0 2 := E1114.next f1135 f1136 (rv_c I1098 J1131 (I1098.up h_o0) (k := 19) rfl) (rE_ha I1098 J1131 (I1098.up h_o0) (by decide)) (e := 1) h1148 (by decide)
        have K1149 : rK M0 M1128 o0 ((880 + ra M0 o0 6 44).toNat) := K1117.same (sA_c I1098 J1131 (I1098.up h_o0) (by decide +kernel))
        have K1150 : nN M1128 o0 := K1118.same (sA_c I1098 J1131 (I1098.up h_o0) (by decide +kernel)) (sF_c I1098 J1131 (I1098.up h_o0) (by decide +kernel))
        obtain ⟨s1151, e1152⟩ : ∃ s9 : p_S, p_nx s64 = s9 := ⟨_, rfl⟩
        rw [e1152] at f1137
        have := f1137.w
        clear z1108 z1109 z1110 z1111 z1112 z1113 z1116
        have q1153 := J1131.keep t86 (by decide) (K1099 _ 13 6 _ q103)
        have t1154 := J1131.up t104
        have q1155 := J1131.keep t86 (by decide) (K1099 _ 13 19 _ q105)
        have q1156 := J1131.keep t86 (by decide) (K1099 _ 13 8 _ q106)
        have t1157 := J1131.up t87
        refine mv_aload_n d_TrustDeskModel_readRule_144 rfl rfl ?_
        refine mv_ldcSw (id := 25) (tx := "if") d_TrustDeskModel_readRule_145 (List.mem_of_getElem? (i := 15) rfl) ?_
        obtain ⟨_, b1164, -⟩ := I1132.1 _ _ t1138
        refine mv_callV (kc' := 0) (ks' := 0) (As := [.ref 25]) (st9 := [.ref 25, .ref o0]) d_TrustDeskModel_readRule_148 lV_TrustDeskModel_329 b1164 rfl (tc_TrustDeskModel_wantWord_s1_25_x (d := (d + 19)) (x9 := x9) (o0 := o0) t1138 R1134 E1147.1 (E1147.s yS (by decide)) f1137 I1132.start) rfl (Nat.le_of_ble_eq_true rfl) (Nat.le_of_ble_eq_true rfl) (Nat.le_of_ble_eq_true rfl) (hst := rfl) (fun b1158r M1159 n1160 b1158 => ?_)
        obtain ⟨T1161, J1162, rfl, R1165, f1166, f1167⟩ := b1158
        have I1163 := I1132.call J1162 (tm_sub (by decide)) (Or.inl rfl)
        have t1168 := J1162.up t1138
        have := f1166.2.1
        have f1169 := Im.i f1166.w.2
        have f1170 := Im.i f1166.w2
        have z1171 := (rv_c I1132 J1162 (I1132.up h_o0) (k := 22) rfl).trans z1140
        have z1172 := (rv_c I1132 J1162 (I1132.up h_o0) (k := 24) rfl).trans z1141
        have z1173 := (ra_call I1132 J1162 (I1132.up h_o0) (k := 5) rfl rfl rfl 44).trans z1142
        have z1174 := (ra_call I1132 J1162 (I1132.up h_o0) (k := 6) rfl rfl rfl 44).trans z1143
        have z1175 := (ra_call I1132 J1162 (I1132.up h_o0) (k := 7) rfl rfl rfl ((880 + ra M0 o0 6 44).toNat)).trans z1144
        have z1176 := (ra_call I1132 J1162 (I1132.up h_o0) (k := 10) rfl rfl rfl ((880 + ra M0 o0 6 44).toNat)).trans z1145
        have z1177 := (ra_call I1132 J1162 (I1132.up h_o0) (k := 8) rfl rfl rfl ((880 + ra M0 o0 6 44).toNat)).trans z1146
        have E1178 : rE M0 M1159 o0 0 3 := E1147.trans f1166 (by decide) (yR.2 5 _ _ rfl 44).1 (by decide) (by decide)
        have K1179 : rK M0 M1159 o0 ((880 + ra M0 o0 6 44).toNat) := K1149.same (sA_c I1132 J1162 (I1132.up h_o0) (by decide +kernel))
        have K1180 : nN M1159 o0 := K1150.same (sA_c I1132 J1162 (I1132.up h_o0) (by decide +kernel)) (sF_c I1132 J1162 (I1132.up h_o0) (by decide +kernel))
        obtain ⟨s1181, e1182⟩ : ∃ s9 : p_S, p_wd pb pn 28 s1151 = s9 := ⟨_, rfl⟩
        rw [e1182] at f1167
        have := f1167.w
        clear z1140 z1141 z1142 z1143 z1144 z1145 z1146
        have q1183 := J1162.keep t1138 (by decide) q1153
        have t1184 := J1162.up t1154
        have q1185 := J1162.keep t1138 (by decide) q1156
        have t1186 := J1162.up t1157
        refine mv_aload_n d_TrustDeskModel_readRule_151 rfl rfl ?_
        obtain ⟨a1188, q1187, t_a1188⟩ := tm_atR I1163 t1168 (k := 11) rfl
        refine tr_getK q1187 d_TrustDeskModel_readRule_152 f_TrustDeskModel_38_13 ?_
        refine mv_iload_n d_TrustDeskModel_readRule_155 rfl rfl ?_
        refine mv_aload_n d_TrustDeskModel_readRule_156 rfl rfl ?_
        obtain ⟨a1190, q1189, t_a1190⟩ := tm_atR I1163 t1168 (k := 5) rfl
        refine tr_getK q1189 d_TrustDeskModel_readRule_157 f_TrustDeskModel_20_13 ?_
        refine mv_bipush (v := 44) d_TrustDeskModel_readRule_160 (by decide) ?_
        refine tr_ialdR (o := o0) (k := 5) I1163 q1189 t_a1190 (by decide) d_TrustDeskModel_readRule_162 (by unfold vp_in; decide) (fun v1191 e1192 => ?_)
        have := R1165.a (k := 5) rfl (44 : Int32).toNatClampNeg
        have : v1191.toInt = ra M1159 o0 5 44 := e1192
        have : v1191.toInt = _ := Eq.trans e1192 z1173
        refine tr_iastR (k := 11) I1163 R1165 (I1163.up h_o0) q1187 t_a1188 (by decide) (by decide) (fun lo hi h => by cases h; have := R1165.1 15 _ _ rfl; have := R1165.1 16 _ _ rfl; have := R1165.1 19 _ _ rfl; exact ⟨by show (0 : Int) ≤ v1191.toInt; omega, by show v1191.toInt ≤ (400 : Int); omega⟩) (Or.inl (by decide)) d_TrustDeskModel_readRule_163 (vp_in_iff.mpr (by have := R1165.1 15 _ _ rfl; have := R1165.1 16 _ _ rfl; have := R1165.1 19 _ _ rfl; omega)) (fun M1193 I1194 K1195 R1196 E1197 A1198 V1199 => ?_)
        have z1200 := (V1199 15)
        have z1201 := (V1199 16)
        have z1202 := (V1199 17)
        have z1203 := (V1199 19)
        have z1204 := (V1199 22).trans z1171
        have z1205 := (V1199 24).trans z1172
        have z1206 := (A1198 5 (by decide) rfl 44).trans z1173
        have z1207 := (A1198 6 (by decide) rfl 44).trans z1174
        have z1208 := (A1198 7 (by decide) rfl ((880 + ra M0 o0 6 44).toNat)).trans z1175
        have z1209 := (A1198 10 (by decide) rfl ((880 + ra M0 o0 6 44).toNat)).trans z1176
        have z1210 := (A1198 8 (by decide) rfl ((880 + ra M0 o0 6 44).toNat)).trans z1177
        have E1211 : rE M0 M1193 o0 0 3 := E1178.same (fun k _ _ => V1199 k) (fun k h1 h2 => A1198 k (by omega) (by rcases (show k = 4 ∨ k = 5 by omega) with rfl | rfl <;> rfl))
        have h1212 : (880 + ra M0 o0 6 44).toNat = v44.toNatClampNeg := by have := mz_nat9 (i := v44) (by have := R1165.1 15 _ _ rfl; have := R1165.1 16 _ _ rfl; have := R1165.1 19 _ _ rfl; omega); have := R1165.1 15 _ _ rfl; have := R1165.1 16 _ _ rfl; have := R1165.1 19 _ _ rfl; omega
        have z1213 : ra M1193 o0 11 ((880 + ra M0 o0 6 44).toNat) = v1191.toInt := (E1197 _).trans (if_pos h1212)
        have K1214 : rK M0 M1193 o0 ((880 + ra M0 o0 6 44).toNat) := K1179.st A1198 E1197 (by have := mz_nat9 (i := v44) (by have := R1165.1 15 _ _ rfl; have := R1165.1 16 _ _ rfl; have := R1165.1 19 _ _ rfl; omega); have := R1165.1 15 _ _ rfl; have := R1165.1 16 _ _ rfl; have := R1165.1 19 _ _ rfl; omega)
        have K1215 : nN M1193 o0 := K1180.same (sA_a A1198 (by decide +kernel)) (sF_a V1199)
        have F1216 : rE M1193 M1193 o0 0 0 := rE.rf E1211.1
        have : ra M1193 o0 5 44 = v1191.toInt := by omega
        have Z91217 : pO M1193 o0 pb pn pa s1181 := f1167.same (fun k _ _ => V1199 k) (V1199 23) (A1198 13 (by decide) rfl)
        clear z1171 z1172 z1173 z1174 z1175 z1176 z1177
        refine mv_aload_n d_TrustDeskModel_readRule_164 rfl rfl ?_
        obtain ⟨_, b1224, -⟩ := I1194.1 _ _ t1168
        refine mv_callV (kc' := 0) (ks' := 0) (As := []) (st9 := [.ref o0]) d_TrustDeskModel_readRule_165 lV_TrustDeskModel_302 b1224 rfl (tc_TrustDeskModel_cond_q5_x (d := d) (x9 := x9) (o0 := o0) t1168 R1196 E1211.1 (E1211.s yS (by decide)) (Classical.byCases (fun w9 : rv M1193 o0 19 = 0 => by have u91 : rv M1159 o0 19 = 0 := (by omega); have := f1169.o u91; have := f1170.o u91; have u92 : rv M38 o0 19 = 0 := (by omega); have := f54.o u92; have := f55.o u92; omega) (fun w9 : ¬ rv M1193 o0 19 = 0 => by omega)) Z91217 I1194.start) rfl (Nat.le_of_ble_eq_true rfl) (Nat.le_of_ble_eq_true rfl) (Nat.le_of_ble_eq_true rfl) (hst := rfl) (fun b1218r M1219 n1220 b1218 => ?_)
        obtain ⟨T1221, J1222, rfl, R1225, f1226, f1227, f1228⟩ := b1218
        have I1223 := I1194.call J1222 (tm_sub (by decide)) (Or.inl rfl)
        have t1229 := J1222.up t1168
        have := f1226.2.1
        have f1230 := Im.i f1226.w.2
        have f1231 := Im.i f1226.w2
        replace f1227 := Im.i f1227
        have z1232 := (rv_c I1194 J1222 (I1194.up h_o0) (k := 24) rfl).trans z1205
        have z1233 := (ra_call I1194 J1222 (I1194.up h_o0) (k := 6) rfl rfl rfl 44).trans z1207
        have z1234 := (ra_call I1194 J1222 (I1194.up h_o0) (k := 7) rfl rfl rfl ((880 + ra M0 o0 6 44).toNat)).trans z1208
        have z1235 := (ra_call I1194 J1222 (I1194.up h_o0) (k := 10) rfl rfl rfl ((880 + ra M0 o0 6 44).toNat)).trans z1209
        have z1236 := (ra_call I1194 J1222 (I1194.up h_o0) (k := 8) rfl rfl rfl ((880 + ra M0 o0 6 44).toNat)).trans z1210
        have z1237 := (ra_call I1194 J1222 (I1194.up h_o0) (k := 11) rfl rfl rfl ((880 + ra M0 o0 6 44).toNat)).trans z1213
        have E1238 : rE M0 M1219 o0 1 3 := E1211.trans f1226 (by decide) (yR.2 5 _ _ rfl 44).1 (by decide) (by decide)
        have K1239 : rK M0 M1219 o0 ((880 + ra M0 o0 6 44).toNat) := K1214.same (sA_c I1194 J1222 (I1194.up h_o0) (by decide +kernel))
        have K1240 : nN M1219 o0 := K1215.same (sA_c I1194 J1222 (I1194.up h_o0) (by decide +kernel)) (sF_c I1194 J1222 (I1194.up h_o0) (by decide +kernel))
        have F1241 : rE M1193 M1219 o0 1 0 := F1216.trans f1226 (by decide) (R1196.2 5 _ _ rfl 44).1 (by decide) (by decide)
        obtain ⟨s1242, e1243⟩ : ∃ s9 : p_S, p_con pb pn pa 4 (p_oc pb pn pa 4) s1181 = s9 := ⟨_, rfl⟩
        rw [e1243] at f1228
        have := f1228.w
        clear z1205 z1207 z1208 z1209 z1210 z1213
        have q1244 := J1222.keep t1168 (by decide) (K1195 _ 13 6 _ q1183)
        have t1245 := J1222.up t1184
        have q1246 := J1222.keep t1168 (by decide) (K1195 _ 13 8 _ q1185)
        have t1247 := J1222.up t1186
        have q1248 := J1222.keep t1168 (by decide) (K1195 _ 13 11 _ q1187)
        have t1249 := J1222.up t_a1188
        have q1250 := J1222.keep t1168 (by decide) (K1195 _ 13 5 _ q1189)
        have t1251 := J1222.up t_a1190
        refine mv_goto (tgt := 251) d_TrustDeskModel_readRule_168 (by decide) ?_
        refine mv_aload_n d_TrustDeskModel_readRule_251 rfl rfl ?_
        refine mv_bipush (v := 59) d_TrustDeskModel_readRule_252 (by decide) ?_
        obtain ⟨_, b1258, -⟩ := I1223.1 _ _ t1229
        have : (59 : Int32).toInt = 59 := by decide
        refine mv_callV (kc' := 0) (ks' := 0) (As := [.int 59]) (st9 := [.int 59, .ref o0]) d_TrustDeskModel_readRule_254 lV_TrustDeskModel_291 b1258 rfl (tc_TrustDeskModel_wantSign_x (d := (d + 22)) (x9 := x9) (o0 := o0) (x1 := 59) t1229 R1225 E1238.1 (E1238.s yS (by decide)) (by decide) f1228 I1223.start) rfl (Nat.le_of_ble_eq_true rfl) (Nat.le_of_ble_eq_true rfl) (Nat.le_of_ble_eq_true rfl) (hst := rfl) (fun b1252r M1253 n1254 b1252 => ?_)
        obtain ⟨T1255, J1256, rfl, R1259, f1260, f1261⟩ := b1252
        have I1257 := I1223.call J1256 (tm_sub (by decide)) (Or.inl rfl)
        have t1262 := J1256.up t1229
        have := f1260.2.1
        have f1263 := Im.i f1260.w.2
        have f1264 := Im.i f1260.w2
        have z1265 := (rv_c I1223 J1256 (I1223.up h_o0) (k := 22) rfl)
        have z1266 := (rv_c I1223 J1256 (I1223.up h_o0) (k := 24) rfl).trans z1232
        have z1267 := (ra_call I1223 J1256 (I1223.up h_o0) (k := 5) rfl rfl rfl 44)
        have z1268 := (ra_call I1223 J1256 (I1223.up h_o0) (k := 6) rfl rfl rfl 44).trans z1233
        have z1269 := (ra_call I1223 J1256 (I1223.up h_o0) (k := 7) rfl rfl rfl ((880 + ra M0 o0 6 44).toNat)).trans z1234
        have z1270 := (ra_call I1223 J1256 (I1223.up h_o0) (k := 10) rfl rfl rfl ((880 + ra M0 o0 6 44).toNat)).trans z1235
        have z1271 := (ra_call I1223 J1256 (I1223.up h_o0) (k := 8) rfl rfl rfl ((880 + ra M0 o0 6 44).toNat)).trans z1236
        have z1272 := (ra_call I1223 J1256 (I1223.up h_o0) (k := 11) rfl rfl rfl ((880 + ra M0 o0 6 44).toNat)).trans z1237
        have E1273 : rE M0 M1253 o0 1 4 := E1238.trans f1260 (by decide) (yR.2 5 _ _ rfl 44).1 (by decide) (by decide)
        have K1274 : rK M0 M1253 o0 ((880 + ra M0 o0 6 44).toNat) := K1239.same (sA_c I1223 J1256 (I1223.up h_o0) (by decide +kernel))
        have K1275 : nN M1253 o0 := K1240.same (sA_c I1223 J1256 (I1223.up h_o0) (by decide +kernel)) (sF_c I1223 J1256 (I1223.up h_o0) (by decide +kernel))
        have F1276 : rE M1193 M1253 o0 1 1 := F1241.trans f1260 (by decide) (R1196.2 5 _ _ rfl 44).1 (by decide) (by decide)
        rw [show (59 : Int32).toInt = 59 from by decide] at f1261
        obtain ⟨s1277, e1278⟩ : ∃ s9 : p_S, p_sg pb pn 59 s1242 = s9 := ⟨_, rfl⟩
        rw [e1278] at f1261
        have := f1261.w
        clear z1232 z1233 z1234 z1235 z1236 z1237
        have q1279 := J1256.keep t1229 (by decide) q1244
        have t1280 := J1256.up t1245
        have q1281 := J1256.keep t1229 (by decide) q1246
        have t1282 := J1256.up t1247
        have q1283 := J1256.keep t1229 (by decide) q1248
        have t1284 := J1256.up t1249
        have q1285 := J1256.keep t1229 (by decide) q1250
        have t1286 := J1256.up t1251
        refine mv_aload_n d_TrustDeskModel_readRule_257 rfl rfl ?_
        obtain ⟨a1288, q1287, t_a1288⟩ := tm_atR I1257 t1262 (k := 12) rfl
        refine tr_getK q1287 d_TrustDeskModel_readRule_258 f_TrustDeskModel_41_13 ?_
        refine mv_iload_n d_TrustDeskModel_readRule_261 rfl rfl ?_
        refine mv_aload_n d_TrustDeskModel_readRule_262 rfl rfl ?_
        refine tr_getK (k := 5) q1285 d_TrustDeskModel_readRule_263 f_TrustDeskModel_20_13 ?_
        refine mv_bipush (v := 44) d_TrustDeskModel_readRule_266 (by decide) ?_
        refine tr_ialdR (o := o0) (k := 5) I1257 q1285 t1286 (by decide) d_TrustDeskModel_readRule_268 (by unfold vp_in; decide) (fun v1289 e1290 => ?_)
        have := R1259.a (k := 5) rfl (44 : Int32).toNatClampNeg
        have : v1289.toInt = ra M1253 o0 5 44 := e1290
        have : v1289.toInt = _ := Eq.trans e1290 z1267
        refine tr_iastR (k := 12) I1257 R1259 (I1257.up h_o0) q1287 t_a1288 (by decide) (by decide) (fun lo hi h => by cases h; have := R1259.1 15 _ _ rfl; have := R1259.1 16 _ _ rfl; have := R1259.1 19 _ _ rfl; exact ⟨by show (0 : Int) ≤ v1289.toInt; omega, by show v1289.toInt ≤ (400 : Int); omega⟩) (Or.inl (by decide)) d_TrustDeskModel_readRule_269 (vp_in_iff.mpr (by have := R1259.1 15 _ _ rfl; have := R1259.1 16 _ _ rfl; have := R1259.1 19 _ _ rfl; omega)) (fun M1291 I1292 K1293 R1294 E1295 A1296 V1297 => ?_)
        have z1298 := (V1297 15)
        have z1299 := (V1297 16)
        have z1300 := (V1297 17)
        have z1301 := (V1297 19)
        have z1302 := (V1297 22).trans z1265
        have z1303 := (V1297 24).trans z1266
        have z1304 := (A1296 5 (by decide) rfl 44).trans z1267
        have z1305 := (A1296 6 (by decide) rfl 44).trans z1268
        have z1306 := (A1296 7 (by decide) rfl ((880 + ra M0 o0 6 44).toNat)).trans z1269
        have z1307 := (A1296 10 (by decide) rfl ((880 + ra M0 o0 6 44).toNat)).trans z1270
        have z1308 := (A1296 8 (by decide) rfl ((880 + ra M0 o0 6 44).toNat)).trans z1271
        have z1309 := (A1296 11 (by decide) rfl ((880 + ra M0 o0 6 44).toNat)).trans z1272
        have E1310 : rE M0 M1291 o0 1 4 := E1273.same (fun k _ _ => V1297 k) (fun k h1 h2 => A1296 k (by omega) (by rcases (show k = 4 ∨ k = 5 by omega) with rfl | rfl <;> rfl))
        have h1311 : (880 + ra M0 o0 6 44).toNat = v44.toNatClampNeg := by have := mz_nat9 (i := v44) (by have := R1259.1 15 _ _ rfl; have := R1259.1 16 _ _ rfl; have := R1259.1 19 _ _ rfl; omega); have := R1259.1 15 _ _ rfl; have := R1259.1 16 _ _ rfl; have := R1259.1 19 _ _ rfl; omega
        have z1312 : ra M1291 o0 12 ((880 + ra M0 o0 6 44).toNat) = v1289.toInt := (E1295 _).trans (if_pos h1311)
        have K1313 : rK M0 M1291 o0 ((880 + ra M0 o0 6 44).toNat) := K1274.st A1296 E1295 (by have := mz_nat9 (i := v44) (by have := R1259.1 15 _ _ rfl; have := R1259.1 16 _ _ rfl; have := R1259.1 19 _ _ rfl; omega); have := R1259.1 15 _ _ rfl; have := R1259.1 16 _ _ rfl; have := R1259.1 19 _ _ rfl; omega)
        have K1314 : nN M1291 o0 := K1275.same (sA_a A1296 (by decide +kernel)) (sF_a V1297)
        have F1315 : rE M1193 M1291 o0 1 1 := F1276.same (fun k _ _ => V1297 k) (fun k h1 h2 => A1296 k (by omega) (by rcases (show k = 4 ∨ k = 5 by omega) with rfl | rfl <;> rfl))
        have Z91316 : pO M1291 o0 pb pn pa s1277 := f1261.same (fun k _ _ => V1297 k) (V1297 23) (A1296 13 (by decide) rfl)
        clear z1265 z1266 z1267 z1268 z1269 z1270 z1271 z1272
        exact mv_vret d_TrustDeskModel_readRule_270 rfl ⟨_, I1292, rfl, R1294, (rW.of E1310.1 (E1310.s yS (by decide)) (fun w9 => by have u91 : rv M1253 o0 19 = 0 := (by omega); have := f1263.o u91; have := f1264.o u91; have u92 : rv M1219 o0 19 = 0 := (by omega); have := f1230.o u92; have := f1231.o u92; have := f1227.o u92; have u93 : rv M1159 o0 19 = 0 := (by omega); have := f1169.o u93; have := f1170.o u93; have u94 : rv M38 o0 19 = 0 := (by omega); have := f54.o u94; have := f55.o u94; exact rG.step yG yR E1310 w9 K1313 (by have := yR.2 6 _ _ rfl 44; omega) (by have := R1294.1 15 _ _ rfl; have := R1294.1 16 _ _ rfl; have := R1294.1 19 _ _ rfl; omega) (by have := R1294.1 15 _ _ rfl; have := R1294.1 16 _ _ rfl; have := R1294.1 19 _ _ rfl; omega) (fun _ => rowN.of E1211 F1315 w9 (by decide) (by decide) (yR.2 5 _ _ rfl 44).1 (by have := R1294.1 15 _ _ rfl; have := R1294.1 16 _ _ rfl; have := R1294.1 19 _ _ rfl; omega) (by have := R1294.1 15 _ _ rfl; have := R1294.1 16 _ _ rfl; have := R1294.1 19 _ _ rfl; omega) (by have := R1294.1 15 _ _ rfl; have := R1294.1 16 _ _ rfl; have := R1294.1 19 _ _ rfl; omega)) (fun h9 => (by have := R1294.1 15 _ _ rfl; have := R1294.1 16 _ _ rfl; have := R1294.1 19 _ _ rfl; omega)) (by have := R1294.1 15 _ _ rfl; have := R1294.1 16 _ _ rfl; have := R1294.1 19 _ _ rfl; omega) K1314)), (rO.of E1310 K1313 (by have := yR.2 6 _ _ rfl 44; omega)), ⟨E1310.2.1, fun w9 => by skip; have := E1310.w2 w9; omega⟩, (fun w9 => by have u91 : rv M1253 o0 19 = 0 := (by omega); have := f1263.o u91; have := f1264.o u91; have u92 : rv M1219 o0 19 = 0 := (by omega); have := f1230.o u92; have := f1231.o u92; have := f1227.o u92; have u93 : rv M1159 o0 19 = 0 := (by omega); have := f1169.o u93; have := f1170.o u93; have u94 : rv M38 o0 19 = 0 := (by omega); have := f54.o u94; have := f55.o u94; omega), (by first | (have := pW1 (Im.o d102) (by omega); have := Z9101.wk; rw [show p_rul pb pn pa pc9 ps = s1277 from (by unfold p_rul; unfold p_bar; (try simp only [e65, e1152, e1182, e1243, e1278]); ((repeat' (first | (with_reducible rfl) | split)) <;> (first | ((try simp only [e65, e1152, e1182, e1243, e1278]); done) | ((try simp only [e65, e1152, e1182, e1243, e1278]); first | exact p_sg_Z _ (by omega) | exact (p_sg_Z _ (by omega)).symm | omega) | (exfalso; omega))))]; exact Z91316) | (exfalso; have := R1294.1 15 _ _ rfl; have := R1294.1 16 _ _ rfl; have := R1294.1 19 _ _ rfl; omega)), (fun w9 => by have u91 : rv M1253 o0 19 = 0 := (by omega); have := f1263.o u91; have := f1264.o u91; have u92 : rv M1219 o0 19 = 0 := (by omega); have := f1230.o u92; have := f1231.o u92; have := f1227.o u92; have u93 : rv M1159 o0 19 = 0 := (by omega); have := f1169.o u93; have := f1170.o u93; have u94 : rv M38 o0 19 = 0 := (by omega); have := f54.o u94; have := f55.o u94; omega)⟩
  · refine mv_aload_n d_TrustDeskModel_readRule_30 rfl rfl ?_
    refine mv_iconst (v := 4) d_TrustDeskModel_readRule_31 (by decide) ?_
    obtain ⟨_, b1323, -⟩ := I8.1 _ _ t14
    have : (4 : Int32).toInt = 4 := by decide
    refine mv_callV (kc' := 0) (ks' := 0) (As := [.int 4]) (st9 := [.int 4, .ref o0]) d_TrustDeskModel_readRule_32 lV_TrustDeskModel_240 b1323 rfl (tc_TrustDeskModel_fails_x (d := (d + 24)) (x9 := x9) (o0 := o0) (x1 := 4) t14 R11 (by decide) Z926 I8.start) rfl (Nat.le_of_ble_eq_true rfl) (Nat.le_of_ble_eq_true rfl) (Nat.le_of_ble_eq_true rfl) (hst := rfl) (fun b1317r M1318 n1319 b1317 => ?_)
    obtain ⟨T1320, J1321, rfl, R1324, f1325, f1326⟩ := b1317
    have I1322 := I8.call J1321 (tm_sub (by decide)) (Or.inl rfl)
    have t1327 := J1321.up t14
    have z1328 := (rv_c I8 J1321 (I8.up h_o0) (k := 15) rfl).trans z15
    have z1329 := (rv_c I8 J1321 (I8.up h_o0) (k := 16) rfl).trans z16
    have z1330 := (rv_c I8 J1321 (I8.up h_o0) (k := 17) rfl).trans z17
    have z1331 := (rv_c I8 J1321 (I8.up h_o0) (k := 22) rfl).trans z19
    have z1332 := (rv_c I8 J1321 (I8.up h_o0) (k := 24) rfl).trans z20
    have z1333 := (ra_call I8 J1321 (I8.up h_o0) (k := 5) rfl rfl rfl 44).trans z21
    have z1334 := (ra_call I8 J1321 (I8.up h_o0) (k := 6) rfl rfl rfl 44).trans z22
    have E1335 : rE M0 M1318 o0 0 0 := E23.fails (rE_hv I8 J1321 (I8.up h_o0) 15 18 (by decide)) (rE_ha I8 J1321 (I8.up h_o0) (by decide)) f1325 0 0
    have K1336 : rK M0 M1318 o0 ((880 + ra M0 o0 6 44).toNat) := K24.same (sA_c I8 J1321 (I8.up h_o0) (by decide +kernel))
    have K1337 : nN M1318 o0 := K25.same (sA_c I8 J1321 (I8.up h_o0) (by decide +kernel)) (sF_c I8 J1321 (I8.up h_o0) (by decide +kernel))
    rw [show (4 : Int32).toInt = 4 from by decide] at f1326
    obtain ⟨s1338, e1339⟩ : ∃ s9 : p_S, p_fl pb pn 4 ps = s9 := ⟨_, rfl⟩
    rw [e1339] at f1326
    have := f1326.w
    clear z15 z16 z17 z19 z20 z21 z22
    have q1340 := J1321.keep t14 (by decide) q28
    have t1341 := J1321.up t_a29
    refine mv_aload_n d_TrustDeskModel_readRule_35 rfl rfl ?_
    obtain ⟨_, b1342, -⟩ := I1322.1 _ _ t1327
    refine mv_callV (kc1 := 0) (ks1 := 0) (kc' := 0) (ks' := 0) (As := []) (st9 := [.ref o0]) d_TrustDeskModel_readRule_36 lV_TrustDeskModel_230 b1342 rfl (mj_enter (by decide) (Nat.le_of_ble_eq_true rfl) ?_) rfl (Nat.le_of_ble_eq_true rfl) (Nat.le_of_ble_eq_true rfl) (Nat.le_of_ble_eq_true rfl) (hst := rfl) (fun _ _ _ h => h)
    refine mv_aload_n d_TrustDeskModel_isWell_0 rfl rfl ?_
    obtain ⟨v1344, q1343⟩ := tm_atI I1322 t1327 (k := 19) rfl
    refine tr_getK q1343 d_TrustDeskModel_isWell_1 f_TrustDeskModel_224_13 ?_
    have := R1324.f (k := 19) q1343 rfl
    have := tm_rv q1343
    refine mv_if_neZ (tgt := 11) (a := v1344.toInt) d_TrustDeskModel_isWell_4 (by decide) rfl (fun b1345 => ?_) (fun b1345 => ?_)
    · refine mv_iconst (v := 0) d_TrustDeskModel_isWell_11 (by decide) ?_
      refine mv_iret d_TrustDeskModel_isWell_12 rfl (by decide) ?_
      refine mv_if_ne_f (tgt := 43) d_TrustDeskModel_readRule_39 (by decide) (by decide) ?_
      exact mv_vret d_TrustDeskModel_readRule_42 rfl ⟨_, I1322, rfl, R1324, (rW.of E1335.1 (fun h9 => by exfalso; skip; have := R1324.1 15 _ _ rfl; have := R1324.1 16 _ _ rfl; have := R1324.1 19 _ _ rfl; omega) (fun h9 => by exfalso; skip; have := R1324.1 15 _ _ rfl; have := R1324.1 16 _ _ rfl; have := R1324.1 19 _ _ rfl; omega)), (rO.of E1335 K1336 (by have := yR.2 6 _ _ rfl 44; omega)), ⟨E1335.2.1, fun w9 => by skip; have := E1335.w2 w9; omega⟩, (fun w9 => by skip; omega), (by first | (rw [show p_rul pb pn pa pc9 ps = s1338 from (by unfold p_rul; unfold p_bar; (try simp only [e1339]); ((repeat' (first | (with_reducible rfl) | split)) <;> (first | ((try simp only [e1339]); done) | ((try simp only [e1339]); first | exact p_sg_Z _ (by omega) | exact (p_sg_Z _ (by omega)).symm | omega) | (exfalso; omega))))]; exact f1326) | (exfalso; have := R1324.1 15 _ _ rfl; have := R1324.1 16 _ _ rfl; have := R1324.1 19 _ _ rfl; omega)), (fun w9 => by skip; omega)⟩
    · exfalso
      have := R1324.1 15 _ _ rfl; have := R1324.1 16 _ _ rfl; have := R1324.1 19 _ _ rfl; omega
def w_TrustDeskModel_readRule_x : List Nat := [1315, 1316, 1317, 1318, 1319, 1320, 1322, 20004, 20005, 20006, 20007, 20008, 20010, 20011, 20012]
theorem tc_TrustDeskModel_readRule_x {g : mj_G} {l : Launch} {d : Nat} {T0 : tm_H} {M0 : mj_M} {n0 x9 : Nat} {o0 : Nat} (h_o0 : T0 o0 = some (0, 13, 0)) (yR : rI M0 o0) (yWW : rW M0 o0) (yw : rv M0 o0 19 = 0) (yo : rv M0 o0 17 ≠ 0) (yq : rv M0 o0 22 = 0) {pb : Nat → Int} {pn : Nat} {pa : Int} {ps : p_S} (yO : pO M0 o0 pb pn pa ps) {pc9 : Nat} (yk : ra M0 o0 6 44 = (pc9 : Int)) (I0 : tm_I tm_FT (tm_in w_TrustDeskModel_readRule_x) x9 T0 M0 n0 T0 M0 n0) : mj_Met g l kY_TrustDeskModel_readRule (d + 25) [.ref o0] M0 n0 0 0 (tm_Q tm_FT (tm_in w_TrustDeskModel_readRule_x) x9 T0 M0 n0 (fun r _ M => r = none ∧ rI M o0 ∧ (rW M o0) ∧ (rO M0 M o0) ∧ (rv M0 o0 16 ≤ rv M o0 16 ∧ (rv M o0 19 = 0 → rv M0 o0 16 < rv M o0 16)) ∧ (rv M o0 19 = 0 → rv M o0 22 = 0) ∧ (pO M o0 pb pn pa (p_rul pb pn pa pc9 ps)) ∧ (rv M o0 19 = 0 → ra M o0 6 44 = (pc9 : Int) + 1))) := by
  by_cases yB : p_wi pb pn ps.2.2 = 23
  · exact tc_TrustDeskModel_readRule_xB (d := d) h_o0 yR yWW yw yo yq yO yk yB I0
  · exact tc_TrustDeskModel_readRule_xA (d := d + 19) h_o0 yR yWW yw yo yq yO yk yB I0
