abbrev kY_TrustDeskModel_readRule : mj_Y := (⟨"TrustDeskModel", "readRule", "()V"⟩, prog_14_method_40_code, 4, (Option.none : Option Jvm.ClassFile.FieldType))
theorem d_TrustDeskModel_readRule_0 : decode kY_TrustDeskModel_readRule.2.1 0 = .ok (.aload_n 0, 1) := by decide +kernel
theorem d_TrustDeskModel_readRule_1 : decode kY_TrustDeskModel_readRule.2.1 1 = .ok (.invokevirtual 365, 3) := by decide +kernel
abbrev kY_TrustDeskModel_ruleWord : mj_Y := (⟨"TrustDeskModel", "ruleWord", "()I"⟩, prog_14_method_39_code, 1, (Option.some Jvm.ClassFile.FieldType.int))
theorem d_TrustDeskModel_ruleWord_0 : decode kY_TrustDeskModel_ruleWord.2.1 0 = .ok (.aload_n 0, 1) := by decide +kernel
theorem d_TrustDeskModel_ruleWord_1 : decode kY_TrustDeskModel_ruleWord.2.1 1 = .ok (.ldc_w 351, 3) := by decide +kernel
theorem d_TrustDeskModel_ruleWord_4 : decode kY_TrustDeskModel_ruleWord.2.1 4 = .ok (.invokevirtual 244, 3) := by decide +kernel
def w_TrustDeskModel_isWord_s1_14_x : List Nat := []
set_option maxHeartbeats 100000000 in theorem tc_TrustDeskModel_isWord_s1_14_x {g : mj_G} {l : Launch} {d : Nat} {T0 : tm_H} {M0 : mj_M} {n0 x9 : Nat} {o0 : Nat} (h_o0 : T0 o0 = some (0, 13, 0)) (yR : rI M0 o0) (I0 : tm_I tm_FT (tm_in w_TrustDeskModel_isWord_s1_14_x) x9 T0 M0 n0 T0 M0 n0) : mj_Met g l kY_TrustDeskModel_isWord (d + 4) [.ref o0, .ref 14] M0 n0 0 0 (tm_Q tm_FT (tm_in w_TrustDeskModel_isWord_s1_14_x) x9 T0 M0 n0 (fun r _ M => ∃ v : Int32, r = some (.int v) ∧ 0 ≤ v.toInt ∧ v.toInt ≤ 1 ∧ rI M o0 ∧ (v.toInt = 1 → rv M0 o0 17 = 3) ∧ (v.toInt = 1 → rv M0 o0 17 = 3 ∧ rv M0 o0 15 - rv M0 o0 16 = 4 ∧ ra M0 o0 13 ((rv M0 o0 16).toNat + 0) = 102 ∧ ra M0 o0 13 ((rv M0 o0 16).toNat + 1) = 97 ∧ ra M0 o0 13 ((rv M0 o0 16).toNat + 2) = 105 ∧ ra M0 o0 13 ((rv M0 o0 16).toNat + 3) = 108) ∧ (v.toInt = 0 → ¬ (rv M0 o0 17 = 3 ∧ rv M0 o0 15 - rv M0 o0 16 = 4 ∧ ra M0 o0 13 ((rv M0 o0 16).toNat + 0) = 102 ∧ ra M0 o0 13 ((rv M0 o0 16).toNat + 1) = 97 ∧ ra M0 o0 13 ((rv M0 o0 16).toNat + 2) = 105 ∧ ra M0 o0 13 ((rv M0 o0 16).toNat + 3) = 108)))) := by
  refine mj_enter (by decide) (Nat.le_of_ble_eq_true rfl) ?_
  refine mv_aload_n d_TrustDeskModel_isWord_0 rfl rfl ?_
  obtain ⟨v2, q1⟩ := tm_atI I0 h_o0 (k := 17) rfl
  refine tr_getK q1 d_TrustDeskModel_isWord_1 f_TrustDeskModel_198_13 ?_
  have := tm_rv q1
  refine mv_iconst (v := 3) d_TrustDeskModel_isWord_4 (by decide) ?_
  have := mz_hi v2
  refine mv_icmp_neZ (tgt := 24) (a := v2.toInt) (b := 3) d_TrustDeskModel_isWord_5 (by decide) rfl (by decide) (fun b3 => ?_) (fun b3 => ?_)
  · refine mv_iconst (v := 0) d_TrustDeskModel_isWord_24 (by decide) ?_
    exact mv_iret d_TrustDeskModel_isWord_25 rfl (by decide) ⟨_, I0, _, rfl, by decide, by decide, yR, (fun h => absurd h (by decide)), (fun h => absurd h (by decide)), (fun _ h => by obtain ⟨h1, h2, h3, h4, h5, h6⟩ := h; have := yR.1 15 _ _ rfl; have := yR.1 16 _ _ rfl; have := yR.1 19 _ _ rfl; omega)⟩
  · refine mv_aload_n d_TrustDeskModel_isWord_8 rfl rfl ?_
    obtain ⟨v5, q4⟩ := tm_atI I0 h_o0 (k := 15) rfl
    refine tr_getK q4 d_TrustDeskModel_isWord_9 f_TrustDeskModel_192_13 ?_
    have := yR.f (k := 15) q4 rfl
    have := tm_rv q4
    refine mv_aload_n d_TrustDeskModel_isWord_12 rfl rfl ?_
    obtain ⟨v7, q6⟩ := tm_atI I0 h_o0 (k := 16) rfl
    refine tr_getK q6 d_TrustDeskModel_isWord_13 f_TrustDeskModel_195_13 ?_
    have := yR.f (k := 16) q6 rfl
    have := tm_rv q6
    refine mv_isub d_TrustDeskModel_isWord_16 ?_
    refine mv_aload_n d_TrustDeskModel_isWord_17 rfl rfl ?_
    refine mv_slenK (i := 4) (v := 4) d_TrustDeskModel_isWord_18 lV_TrustDeskModel_214 (by decide) rfl (by decide) (Nat.le_of_ble_eq_true rfl) ?_
    have b8 : (v5 - v7 : Int32).toInt = (v5.toInt - v7.toInt) := mz_sub2 rfl rfl (by have := yR.1 15 _ _ rfl; have := yR.1 16 _ _ rfl; have := yR.1 19 _ _ rfl; omega) (by have := yR.1 15 _ _ rfl; have := yR.1 16 _ _ rfl; have := yR.1 19 _ _ rfl; omega)
    have := mz_hi (v5 - v7)
    refine mv_icmp_eqZ (tgt := 26) (a := (v5 - v7).toInt) (b := 4) d_TrustDeskModel_isWord_21 (by decide) rfl (by decide) (fun b9 => ?_) (fun b9 => ?_)
    · refine mv_iconst (v := 0) d_TrustDeskModel_isWord_26 (by decide) ?_
      refine mv_istore_n (lv' := [(2, .int 0), (0, .ref o0), (1, .ref 14)]) d_TrustDeskModel_isWord_27 rfl (by decide) rfl ?_
      refine mv_iload_n d_TrustDeskModel_isWord_28 rfl rfl ?_
      refine mv_aload_n d_TrustDeskModel_isWord_29 rfl rfl ?_
      refine mv_slenK (i := 4) (v := 4) d_TrustDeskModel_isWord_30 lV_TrustDeskModel_214 (by decide) rfl (by decide) (Nat.le_of_ble_eq_true rfl) ?_
      refine mv_icmp_ge_f (tgt := 63) d_TrustDeskModel_isWord_33 (by decide) (by decide) ?_
      refine mv_aload_n d_TrustDeskModel_isWord_36 rfl rfl ?_
      obtain ⟨a11, q10, t_a11⟩ := tm_atR I0 h_o0 (k := 13) rfl
      refine tr_getK q10 d_TrustDeskModel_isWord_37 f_TrustDeskModel_44_13 ?_
      refine mv_aload_n d_TrustDeskModel_isWord_40 rfl rfl ?_
      refine tr_getK (k := 16) q6 d_TrustDeskModel_isWord_41 f_TrustDeskModel_195_13 ?_
      refine mv_iload_n d_TrustDeskModel_isWord_44 rfl rfl ?_
      refine mv_iadd d_TrustDeskModel_isWord_45 ?_
      have b12 : (v7 + 0 : Int32).toInt = (v7.toInt + 0) := mz_add2 rfl (by decide) (by have := yR.1 15 _ _ rfl; have := yR.1 16 _ _ rfl; have := yR.1 19 _ _ rfl; omega) (by have := yR.1 15 _ _ rfl; have := yR.1 16 _ _ rfl; have := yR.1 19 _ _ rfl; omega)
      refine tr_baldR (o := o0) (k := 13) I0 q10 t_a11 (by decide) d_TrustDeskModel_isWord_46 (vp_in_iff.mpr (by have := yR.1 15 _ _ rfl; have := yR.1 16 _ _ rfl; have := yR.1 19 _ _ rfl; omega)) (fun v13 e14 => ?_)
      have := yR.a (k := 13) rfl ((v7 + 0) : Int32).toNatClampNeg
      have h15 : (v7 + 0).toNatClampNeg = (rv M0 o0 16).toNat + 0 := by have := mz_nat9 (i := (v7 + 0)) (by have := yR.1 15 _ _ rfl; have := yR.1 16 _ _ rfl; have := yR.1 19 _ _ rfl; omega); have := yR.1 15 _ _ rfl; have := yR.1 16 _ _ rfl; have := yR.1 19 _ _ rfl; omega
      have : v13.toInt = ra M0 o0 13 ((rv M0 o0 16).toNat + 0) := by rw [e14, h15]
      refine mv_aload_n d_TrustDeskModel_isWord_47 rfl rfl ?_
      refine mv_iload_n d_TrustDeskModel_isWord_48 rfl rfl ?_
      refine mv_schC (i := 4) (v := 102) d_TrustDeskModel_isWord_49 lV_TrustDeskModel_220 (by decide) rfl (by decide) (by decide) (Nat.le_of_ble_eq_true rfl) (by decide) ?_
      have := mz_hi v13
      refine mv_icmp_eqZ (tgt := 57) (a := v13.toInt) (b := 102) d_TrustDeskModel_isWord_52 (by decide) rfl (by decide) (fun b16 => ?_) (fun b16 => ?_)
      · refine mv_iinc (v := 1) (lv' := [(2, .int 1), (0, .ref o0), (1, .ref 14)]) d_TrustDeskModel_isWord_57 rfl (by decide) (by decide) rfl ?_
        refine mv_goto (tgt := 28) d_TrustDeskModel_isWord_60 (by decide) ?_
        refine mv_iload_n d_TrustDeskModel_isWord_28 rfl rfl ?_
        refine mv_aload_n d_TrustDeskModel_isWord_29 rfl rfl ?_
        refine mv_slenK (i := 4) (v := 4) d_TrustDeskModel_isWord_30 lV_TrustDeskModel_214 (by decide) rfl (by decide) (Nat.le_of_ble_eq_true rfl) ?_
        refine mv_icmp_ge_f (tgt := 63) d_TrustDeskModel_isWord_33 (by decide) (by decide) ?_
        refine mv_aload_n d_TrustDeskModel_isWord_36 rfl rfl ?_
        refine tr_getK (k := 13) q10 d_TrustDeskModel_isWord_37 f_TrustDeskModel_44_13 ?_
        refine mv_aload_n d_TrustDeskModel_isWord_40 rfl rfl ?_
        refine tr_getK (k := 16) q6 d_TrustDeskModel_isWord_41 f_TrustDeskModel_195_13 ?_
        refine mv_iload_n d_TrustDeskModel_isWord_44 rfl rfl ?_
        refine mv_iadd d_TrustDeskModel_isWord_45 ?_
        have b17 : (v7 + 1 : Int32).toInt = (v7.toInt + 1) := mz_add2 rfl (by decide) (by have := yR.1 15 _ _ rfl; have := yR.1 16 _ _ rfl; have := yR.1 19 _ _ rfl; omega) (by have := yR.1 15 _ _ rfl; have := yR.1 16 _ _ rfl; have := yR.1 19 _ _ rfl; omega)
        refine tr_baldR (o := o0) (k := 13) I0 q10 t_a11 (by decide) d_TrustDeskModel_isWord_46 (vp_in_iff.mpr (by have := yR.1 15 _ _ rfl; have := yR.1 16 _ _ rfl; have := yR.1 19 _ _ rfl; omega)) (fun v18 e19 => ?_)
        have := yR.a (k := 13) rfl ((v7 + 1) : Int32).toNatClampNeg
        have h20 : (v7 + 1).toNatClampNeg = (rv M0 o0 16).toNat + 1 := by have := mz_nat9 (i := (v7 + 1)) (by have := yR.1 15 _ _ rfl; have := yR.1 16 _ _ rfl; have := yR.1 19 _ _ rfl; omega); have := yR.1 15 _ _ rfl; have := yR.1 16 _ _ rfl; have := yR.1 19 _ _ rfl; omega
        have : v18.toInt = ra M0 o0 13 ((rv M0 o0 16).toNat + 1) := by rw [e19, h20]
        refine mv_aload_n d_TrustDeskModel_isWord_47 rfl rfl ?_
        refine mv_iload_n d_TrustDeskModel_isWord_48 rfl rfl ?_
        refine mv_schC (i := 4) (v := 97) d_TrustDeskModel_isWord_49 lV_TrustDeskModel_220 (by decide) rfl (by decide) (by decide) (Nat.le_of_ble_eq_true rfl) (by decide) ?_
        have := mz_hi v18
        refine mv_icmp_eqZ (tgt := 57) (a := v18.toInt) (b := 97) d_TrustDeskModel_isWord_52 (by decide) rfl (by decide) (fun b21 => ?_) (fun b21 => ?_)
        · refine mv_iinc (v := 2) (lv' := [(2, .int 2), (0, .ref o0), (1, .ref 14)]) d_TrustDeskModel_isWord_57 rfl (by decide) (by decide) rfl ?_
          refine mv_goto (tgt := 28) d_TrustDeskModel_isWord_60 (by decide) ?_
          refine mv_iload_n d_TrustDeskModel_isWord_28 rfl rfl ?_
          refine mv_aload_n d_TrustDeskModel_isWord_29 rfl rfl ?_
          refine mv_slenK (i := 4) (v := 4) d_TrustDeskModel_isWord_30 lV_TrustDeskModel_214 (by decide) rfl (by decide) (Nat.le_of_ble_eq_true rfl) ?_
          refine mv_icmp_ge_f (tgt := 63) d_TrustDeskModel_isWord_33 (by decide) (by decide) ?_
          refine mv_aload_n d_TrustDeskModel_isWord_36 rfl rfl ?_
          refine tr_getK (k := 13) q10 d_TrustDeskModel_isWord_37 f_TrustDeskModel_44_13 ?_
          refine mv_aload_n d_TrustDeskModel_isWord_40 rfl rfl ?_
          refine tr_getK (k := 16) q6 d_TrustDeskModel_isWord_41 f_TrustDeskModel_195_13 ?_
          refine mv_iload_n d_TrustDeskModel_isWord_44 rfl rfl ?_
          refine mv_iadd d_TrustDeskModel_isWord_45 ?_
          have b22 : (v7 + 2 : Int32).toInt = (v7.toInt + 2) := mz_add2 rfl (by decide) (by have := yR.1 15 _ _ rfl; have := yR.1 16 _ _ rfl; have := yR.1 19 _ _ rfl; omega) (by have := yR.1 15 _ _ rfl; have := yR.1 16 _ _ rfl; have := yR.1 19 _ _ rfl; omega)
          refine tr_baldR (o := o0) (k := 13) I0 q10 t_a11 (by decide) d_TrustDeskModel_isWord_46 (vp_in_iff.mpr (by have := yR.1 15 _ _ rfl; have := yR.1 16 _ _ rfl; have := yR.1 19 _ _ rfl; omega)) (fun v23 e24 => ?_)
          have := yR.a (k := 13) rfl ((v7 + 2) : Int32).toNatClampNeg
          have h25 : (v7 + 2).toNatClampNeg = (rv M0 o0 16).toNat + 2 := by have := mz_nat9 (i := (v7 + 2)) (by have := yR.1 15 _ _ rfl; have := yR.1 16 _ _ rfl; have := yR.1 19 _ _ rfl; omega); have := yR.1 15 _ _ rfl; have := yR.1 16 _ _ rfl; have := yR.1 19 _ _ rfl; omega
          have : v23.toInt = ra M0 o0 13 ((rv M0 o0 16).toNat + 2) := by rw [e24, h25]
          refine mv_aload_n d_TrustDeskModel_isWord_47 rfl rfl ?_
          refine mv_iload_n d_TrustDeskModel_isWord_48 rfl rfl ?_
          refine mv_schC (i := 4) (v := 105) d_TrustDeskModel_isWord_49 lV_TrustDeskModel_220 (by decide) rfl (by decide) (by decide) (Nat.le_of_ble_eq_true rfl) (by decide) ?_
          have := mz_hi v23
          refine mv_icmp_eqZ (tgt := 57) (a := v23.toInt) (b := 105) d_TrustDeskModel_isWord_52 (by decide) rfl (by decide) (fun b26 => ?_) (fun b26 => ?_)
          · refine mv_iinc (v := 3) (lv' := [(2, .int 3), (0, .ref o0), (1, .ref 14)]) d_TrustDeskModel_isWord_57 rfl (by decide) (by decide) rfl ?_
            refine mv_goto (tgt := 28) d_TrustDeskModel_isWord_60 (by decide) ?_
            refine mv_iload_n d_TrustDeskModel_isWord_28 rfl rfl ?_
            refine mv_aload_n d_TrustDeskModel_isWord_29 rfl rfl ?_
            refine mv_slenK (i := 4) (v := 4) d_TrustDeskModel_isWord_30 lV_TrustDeskModel_214 (by decide) rfl (by decide) (Nat.le_of_ble_eq_true rfl) ?_
            refine mv_icmp_ge_f (tgt := 63) d_TrustDeskModel_isWord_33 (by decide) (by decide) ?_
            refine mv_aload_n d_TrustDeskModel_isWord_36 rfl rfl ?_
            refine tr_getK (k := 13) q10 d_TrustDeskModel_isWord_37 f_TrustDeskModel_44_13 ?_
            refine mv_aload_n d_TrustDeskModel_isWord_40 rfl rfl ?_
            refine tr_getK (k := 16) q6 d_TrustDeskModel_isWord_41 f_TrustDeskModel_195_13 ?_
            refine mv_iload_n d_TrustDeskModel_isWord_44 rfl rfl ?_
            refine mv_iadd d_TrustDeskModel_isWord_45 ?_
            have b27 : (v7 + 3 : Int32).toInt = (v7.toInt + 3) := mz_add2 rfl (by decide) (by have := yR.1 15 _ _ rfl; have := yR.1 16 _ _ rfl; have := yR.1 19 _ _ rfl; omega) (by have := yR.1 15 _ _ rfl; have := yR.1 16 _ _ rfl; have := yR.1 19 _ _ rfl; omega)
            refine tr_baldR (o := o0) (k := 13) I0 q10 t_a11 (by decide) d_TrustDeskModel_isWord_46 (vp_in_iff.mpr (by have := yR.1 15 _ _ rfl; have := yR.1 16 _ _ rfl; have := yR.1 19 _ _ rfl; omega)) (fun v28 e29 => ?_)
            have := yR.a (k := 13) rfl ((v7 + 3) : Int32).toNatClampNeg
            have h30 : (v7 + 3).toNatClampNeg = (rv M0 o0 16).toNat + 3 := by have := mz_nat9 (i := (v7 + 3)) (by have := yR.1 15 _ _ rfl; have := yR.1 16 _ _ rfl; have := yR.1 19 _ _ rfl; omega); have := yR.1 15 _ _ rfl; have := yR.1 16 _ _ rfl; have := yR.1 19 _ _ rfl; omega
            have : v28.toInt = ra M0 o0 13 ((rv M0 o0 16).toNat + 3) := by rw [e29, h30]
            refine mv_aload_n d_TrustDeskModel_isWord_47 rfl rfl ?_
            refine mv_iload_n d_TrustDeskModel_isWord_48 rfl rfl ?_
            refine mv_schC (i := 4) (v := 108) d_TrustDeskModel_isWord_49 lV_TrustDeskModel_220 (by decide) rfl (by decide) (by decide) (Nat.le_of_ble_eq_true rfl) (by decide) ?_
            have := mz_hi v28
            refine mv_icmp_eqZ (tgt := 57) (a := v28.toInt) (b := 108) d_TrustDeskModel_isWord_52 (by decide) rfl (by decide) (fun b31 => ?_) (fun b31 => ?_)
            · refine mv_iinc (v := 4) (lv' := [(2, .int 4), (0, .ref o0), (1, .ref 14)]) d_TrustDeskModel_isWord_57 rfl (by decide) (by decide) rfl ?_
              refine mv_goto (tgt := 28) d_TrustDeskModel_isWord_60 (by decide) ?_
              refine mv_iload_n d_TrustDeskModel_isWord_28 rfl rfl ?_
              refine mv_aload_n d_TrustDeskModel_isWord_29 rfl rfl ?_
              refine mv_slenK (i := 4) (v := 4) d_TrustDeskModel_isWord_30 lV_TrustDeskModel_214 (by decide) rfl (by decide) (Nat.le_of_ble_eq_true rfl) ?_
              refine mv_icmp_ge_t (tgt := 63) d_TrustDeskModel_isWord_33 (by decide) (by decide) ?_
              refine mv_iconst (v := 1) d_TrustDeskModel_isWord_63 (by decide) ?_
              exact mv_iret d_TrustDeskModel_isWord_64 rfl (by decide) ⟨_, I0, _, rfl, by decide, by decide, yR, (fun _ => by have := yR.1 15 _ _ rfl; have := yR.1 16 _ _ rfl; have := yR.1 19 _ _ rfl; omega), (fun _ => ⟨by have := yR.1 15 _ _ rfl; have := yR.1 16 _ _ rfl; have := yR.1 19 _ _ rfl; omega, by have := yR.1 15 _ _ rfl; have := yR.1 16 _ _ rfl; have := yR.1 19 _ _ rfl; omega, by have := yR.1 15 _ _ rfl; have := yR.1 16 _ _ rfl; have := yR.1 19 _ _ rfl; omega, by have := yR.1 15 _ _ rfl; have := yR.1 16 _ _ rfl; have := yR.1 19 _ _ rfl; omega, by have := yR.1 15 _ _ rfl; have := yR.1 16 _ _ rfl; have := yR.1 19 _ _ rfl; omega, by have := yR.1 15 _ _ rfl; have := yR.1 16 _ _ rfl; have := yR.1 19 _ _ rfl; omega⟩), (fun h => absurd h (by decide))⟩
            · refine mv_iconst (v := 0) d_TrustDeskModel_isWord_55 (by decide) ?_
              exact mv_iret d_TrustDeskModel_isWord_56 rfl (by decide) ⟨_, I0, _, rfl, by decide, by decide, yR, (fun h => absurd h (by decide)), (fun h => absurd h (by decide)), (fun _ h => by obtain ⟨h1, h2, h3, h4, h5, h6⟩ := h; have := yR.1 15 _ _ rfl; have := yR.1 16 _ _ rfl; have := yR.1 19 _ _ rfl; omega)⟩
          · refine mv_iconst (v := 0) d_TrustDeskModel_isWord_55 (by decide) ?_
            exact mv_iret d_TrustDeskModel_isWord_56 rfl (by decide) ⟨_, I0, _, rfl, by decide, by decide, yR, (fun h => absurd h (by decide)), (fun h => absurd h (by decide)), (fun _ h => by obtain ⟨h1, h2, h3, h4, h5, h6⟩ := h; have := yR.1 15 _ _ rfl; have := yR.1 16 _ _ rfl; have := yR.1 19 _ _ rfl; omega)⟩
        · refine mv_iconst (v := 0) d_TrustDeskModel_isWord_55 (by decide) ?_
          exact mv_iret d_TrustDeskModel_isWord_56 rfl (by decide) ⟨_, I0, _, rfl, by decide, by decide, yR, (fun h => absurd h (by decide)), (fun h => absurd h (by decide)), (fun _ h => by obtain ⟨h1, h2, h3, h4, h5, h6⟩ := h; have := yR.1 15 _ _ rfl; have := yR.1 16 _ _ rfl; have := yR.1 19 _ _ rfl; omega)⟩
      · refine mv_iconst (v := 0) d_TrustDeskModel_isWord_55 (by decide) ?_
        exact mv_iret d_TrustDeskModel_isWord_56 rfl (by decide) ⟨_, I0, _, rfl, by decide, by decide, yR, (fun h => absurd h (by decide)), (fun h => absurd h (by decide)), (fun _ h => by obtain ⟨h1, h2, h3, h4, h5, h6⟩ := h; have := yR.1 15 _ _ rfl; have := yR.1 16 _ _ rfl; have := yR.1 19 _ _ rfl; omega)⟩
    · refine mv_iconst (v := 0) d_TrustDeskModel_isWord_24 (by decide) ?_
      exact mv_iret d_TrustDeskModel_isWord_25 rfl (by decide) ⟨_, I0, _, rfl, by decide, by decide, yR, (fun h => absurd h (by decide)), (fun h => absurd h (by decide)), (fun _ h => by obtain ⟨h1, h2, h3, h4, h5, h6⟩ := h; have := yR.1 15 _ _ rfl; have := yR.1 16 _ _ rfl; have := yR.1 19 _ _ rfl; omega)⟩
theorem d_TrustDeskModel_ruleWord_7 : decode kY_TrustDeskModel_ruleWord.2.1 7 = .ok (.ifCond .eq 7, 3) := by decide +kernel
theorem d_TrustDeskModel_ruleWord_14 : decode kY_TrustDeskModel_ruleWord.2.1 14 = .ok (.aload_n 0, 1) := by decide +kernel
theorem d_TrustDeskModel_ruleWord_15 : decode kY_TrustDeskModel_ruleWord.2.1 15 = .ok (.ldc_w 353, 3) := by decide +kernel
theorem d_TrustDeskModel_ruleWord_18 : decode kY_TrustDeskModel_ruleWord.2.1 18 = .ok (.invokevirtual 244, 3) := by decide +kernel
def w_TrustDeskModel_isWord_s1_15_x : List Nat := []
set_option maxHeartbeats 100000000 in theorem tc_TrustDeskModel_isWord_s1_15_x {g : mj_G} {l : Launch} {d : Nat} {T0 : tm_H} {M0 : mj_M} {n0 x9 : Nat} {o0 : Nat} (h_o0 : T0 o0 = some (0, 13, 0)) (yR : rI M0 o0) (I0 : tm_I tm_FT (tm_in w_TrustDeskModel_isWord_s1_15_x) x9 T0 M0 n0 T0 M0 n0) : mj_Met g l kY_TrustDeskModel_isWord (d + 4) [.ref o0, .ref 15] M0 n0 0 0 (tm_Q tm_FT (tm_in w_TrustDeskModel_isWord_s1_15_x) x9 T0 M0 n0 (fun r _ M => ∃ v : Int32, r = some (.int v) ∧ 0 ≤ v.toInt ∧ v.toInt ≤ 1 ∧ rI M o0 ∧ (v.toInt = 1 → rv M0 o0 17 = 3) ∧ (v.toInt = 1 → rv M0 o0 17 = 3 ∧ rv M0 o0 15 - rv M0 o0 16 = 4 ∧ ra M0 o0 13 ((rv M0 o0 16).toNat + 0) = 107 ∧ ra M0 o0 13 ((rv M0 o0 16).toNat + 1) = 101 ∧ ra M0 o0 13 ((rv M0 o0 16).toNat + 2) = 101 ∧ ra M0 o0 13 ((rv M0 o0 16).toNat + 3) = 112) ∧ (v.toInt = 0 → ¬ (rv M0 o0 17 = 3 ∧ rv M0 o0 15 - rv M0 o0 16 = 4 ∧ ra M0 o0 13 ((rv M0 o0 16).toNat + 0) = 107 ∧ ra M0 o0 13 ((rv M0 o0 16).toNat + 1) = 101 ∧ ra M0 o0 13 ((rv M0 o0 16).toNat + 2) = 101 ∧ ra M0 o0 13 ((rv M0 o0 16).toNat + 3) = 112)))) := by
  refine mj_enter (by decide) (Nat.le_of_ble_eq_true rfl) ?_
  refine mv_aload_n d_TrustDeskModel_isWord_0 rfl rfl ?_
  obtain ⟨v2, q1⟩ := tm_atI I0 h_o0 (k := 17) rfl
  refine tr_getK q1 d_TrustDeskModel_isWord_1 f_TrustDeskModel_198_13 ?_
  have := tm_rv q1
  refine mv_iconst (v := 3) d_TrustDeskModel_isWord_4 (by decide) ?_
  have := mz_hi v2
  refine mv_icmp_neZ (tgt := 24) (a := v2.toInt) (b := 3) d_TrustDeskModel_isWord_5 (by decide) rfl (by decide) (fun b3 => ?_) (fun b3 => ?_)
  · refine mv_iconst (v := 0) d_TrustDeskModel_isWord_24 (by decide) ?_
    exact mv_iret d_TrustDeskModel_isWord_25 rfl (by decide) ⟨_, I0, _, rfl, by decide, by decide, yR, (fun h => absurd h (by decide)), (fun h => absurd h (by decide)), (fun _ h => by obtain ⟨h1, h2, h3, h4, h5, h6⟩ := h; have := yR.1 15 _ _ rfl; have := yR.1 16 _ _ rfl; have := yR.1 19 _ _ rfl; omega)⟩
  · refine mv_aload_n d_TrustDeskModel_isWord_8 rfl rfl ?_
    obtain ⟨v5, q4⟩ := tm_atI I0 h_o0 (k := 15) rfl
    refine tr_getK q4 d_TrustDeskModel_isWord_9 f_TrustDeskModel_192_13 ?_
    have := yR.f (k := 15) q4 rfl
    have := tm_rv q4
    refine mv_aload_n d_TrustDeskModel_isWord_12 rfl rfl ?_
    obtain ⟨v7, q6⟩ := tm_atI I0 h_o0 (k := 16) rfl
    refine tr_getK q6 d_TrustDeskModel_isWord_13 f_TrustDeskModel_195_13 ?_
    have := yR.f (k := 16) q6 rfl
    have := tm_rv q6
    refine mv_isub d_TrustDeskModel_isWord_16 ?_
    refine mv_aload_n d_TrustDeskModel_isWord_17 rfl rfl ?_
    refine mv_slenK (i := 5) (v := 4) d_TrustDeskModel_isWord_18 lV_TrustDeskModel_214 (by decide) rfl (by decide) (Nat.le_of_ble_eq_true rfl) ?_
    have b8 : (v5 - v7 : Int32).toInt = (v5.toInt - v7.toInt) := mz_sub2 rfl rfl (by have := yR.1 15 _ _ rfl; have := yR.1 16 _ _ rfl; have := yR.1 19 _ _ rfl; omega) (by have := yR.1 15 _ _ rfl; have := yR.1 16 _ _ rfl; have := yR.1 19 _ _ rfl; omega)
    have := mz_hi (v5 - v7)
    refine mv_icmp_eqZ (tgt := 26) (a := (v5 - v7).toInt) (b := 4) d_TrustDeskModel_isWord_21 (by decide) rfl (by decide) (fun b9 => ?_) (fun b9 => ?_)
    · refine mv_iconst (v := 0) d_TrustDeskModel_isWord_26 (by decide) ?_
      refine mv_istore_n (lv' := [(2, .int 0), (0, .ref o0), (1, .ref 15)]) d_TrustDeskModel_isWord_27 rfl (by decide) rfl ?_
      refine mv_iload_n d_TrustDeskModel_isWord_28 rfl rfl ?_
      refine mv_aload_n d_TrustDeskModel_isWord_29 rfl rfl ?_
      refine mv_slenK (i := 5) (v := 4) d_TrustDeskModel_isWord_30 lV_TrustDeskModel_214 (by decide) rfl (by decide) (Nat.le_of_ble_eq_true rfl) ?_
      refine mv_icmp_ge_f (tgt := 63) d_TrustDeskModel_isWord_33 (by decide) (by decide) ?_
      refine mv_aload_n d_TrustDeskModel_isWord_36 rfl rfl ?_
      obtain ⟨a11, q10, t_a11⟩ := tm_atR I0 h_o0 (k := 13) rfl
      refine tr_getK q10 d_TrustDeskModel_isWord_37 f_TrustDeskModel_44_13 ?_
      refine mv_aload_n d_TrustDeskModel_isWord_40 rfl rfl ?_
      refine tr_getK (k := 16) q6 d_TrustDeskModel_isWord_41 f_TrustDeskModel_195_13 ?_
      refine mv_iload_n d_TrustDeskModel_isWord_44 rfl rfl ?_
      refine mv_iadd d_TrustDeskModel_isWord_45 ?_
      have b12 : (v7 + 0 : Int32).toInt = (v7.toInt + 0) := mz_add2 rfl (by decide) (by have := yR.1 15 _ _ rfl; have := yR.1 16 _ _ rfl; have := yR.1 19 _ _ rfl; omega) (by have := yR.1 15 _ _ rfl; have := yR.1 16 _ _ rfl; have := yR.1 19 _ _ rfl; omega)
      refine tr_baldR (o := o0) (k := 13) I0 q10 t_a11 (by decide) d_TrustDeskModel_isWord_46 (vp_in_iff.mpr (by have := yR.1 15 _ _ rfl; have := yR.1 16 _ _ rfl; have := yR.1 19 _ _ rfl; omega)) (fun v13 e14 => ?_)
      have := yR.a (k := 13) rfl ((v7 + 0) : Int32).toNatClampNeg
      have h15 : (v7 + 0).toNatClampNeg = (rv M0 o0 16).toNat + 0 := by have := mz_nat9 (i := (v7 + 0)) (by have := yR.1 15 _ _ rfl; have := yR.1 16 _ _ rfl; have := yR.1 19 _ _ rfl; omega); have := yR.1 15 _ _ rfl; have := yR.1 16 _ _ rfl; have := yR.1 19 _ _ rfl; omega
      have : v13.toInt = ra M0 o0 13 ((rv M0 o0 16).toNat + 0) := by rw [e14, h15]
      refine mv_aload_n d_TrustDeskModel_isWord_47 rfl rfl ?_
      refine mv_iload_n d_TrustDeskModel_isWord_48 rfl rfl ?_
      refine mv_schC (i := 5) (v := 107) d_TrustDeskModel_isWord_49 lV_TrustDeskModel_220 (by decide) rfl (by decide) (by decide) (Nat.le_of_ble_eq_true rfl) (by decide) ?_
      have := mz_hi v13
      refine mv_icmp_eqZ (tgt := 57) (a := v13.toInt) (b := 107) d_TrustDeskModel_isWord_52 (by decide) rfl (by decide) (fun b16 => ?_) (fun b16 => ?_)
      · refine mv_iinc (v := 1) (lv' := [(2, .int 1), (0, .ref o0), (1, .ref 15)]) d_TrustDeskModel_isWord_57 rfl (by decide) (by decide) rfl ?_
        refine mv_goto (tgt := 28) d_TrustDeskModel_isWord_60 (by decide) ?_
        refine mv_iload_n d_TrustDeskModel_isWord_28 rfl rfl ?_
        refine mv_aload_n d_TrustDeskModel_isWord_29 rfl rfl ?_
        refine mv_slenK (i := 5) (v := 4) d_TrustDeskModel_isWord_30 lV_TrustDeskModel_214 (by decide) rfl (by decide) (Nat.le_of_ble_eq_true rfl) ?_
        refine mv_icmp_ge_f (tgt := 63) d_TrustDeskModel_isWord_33 (by decide) (by decide) ?_
        refine mv_aload_n d_TrustDeskModel_isWord_36 rfl rfl ?_
        refine tr_getK (k := 13) q10 d_TrustDeskModel_isWord_37 f_TrustDeskModel_44_13 ?_
        refine mv_aload_n d_TrustDeskModel_isWord_40 rfl rfl ?_
        refine tr_getK (k := 16) q6 d_TrustDeskModel_isWord_41 f_TrustDeskModel_195_13 ?_
        refine mv_iload_n d_TrustDeskModel_isWord_44 rfl rfl ?_
        refine mv_iadd d_TrustDeskModel_isWord_45 ?_
        have b17 : (v7 + 1 : Int32).toInt = (v7.toInt + 1) := mz_add2 rfl (by decide) (by have := yR.1 15 _ _ rfl; have := yR.1 16 _ _ rfl; have := yR.1 19 _ _ rfl; omega) (by have := yR.1 15 _ _ rfl; have := yR.1 16 _ _ rfl; have := yR.1 19 _ _ rfl; omega)
        refine tr_baldR (o := o0) (k := 13) I0 q10 t_a11 (by decide) d_TrustDeskModel_isWord_46 (vp_in_iff.mpr (by have := yR.1 15 _ _ rfl; have := yR.1 16 _ _ rfl; have := yR.1 19 _ _ rfl; omega)) (fun v18 e19 => ?_)
        have := yR.a (k := 13) rfl ((v7 + 1) : Int32).toNatClampNeg
        have h20 : (v7 + 1).toNatClampNeg = (rv M0 o0 16).toNat + 1 := by have := mz_nat9 (i := (v7 + 1)) (by have := yR.1 15 _ _ rfl; have := yR.1 16 _ _ rfl; have := yR.1 19 _ _ rfl; omega); have := yR.1 15 _ _ rfl; have := yR.1 16 _ _ rfl; have := yR.1 19 _ _ rfl; omega
        have : v18.toInt = ra M0 o0 13 ((rv M0 o0 16).toNat + 1) := by rw [e19, h20]
        refine mv_aload_n d_TrustDeskModel_isWord_47 rfl rfl ?_
        refine mv_iload_n d_TrustDeskModel_isWord_48 rfl rfl ?_
        refine mv_schC (i := 5) (v := 101) d_TrustDeskModel_isWord_49 lV_TrustDeskModel_220 (by decide) rfl (by decide) (by decide) (Nat.le_of_ble_eq_true rfl) (by decide) ?_
        have := mz_hi v18
        refine mv_icmp_eqZ (tgt := 57) (a := v18.toInt) (b := 101) d_TrustDeskModel_isWord_52 (by decide) rfl (by decide) (fun b21 => ?_) (fun b21 => ?_)
        · refine mv_iinc (v := 2) (lv' := [(2, .int 2), (0, .ref o0), (1, .ref 15)]) d_TrustDeskModel_isWord_57 rfl (by decide) (by decide) rfl ?_
          refine mv_goto (tgt := 28) d_TrustDeskModel_isWord_60 (by decide) ?_
          refine mv_iload_n d_TrustDeskModel_isWord_28 rfl rfl ?_
          refine mv_aload_n d_TrustDeskModel_isWord_29 rfl rfl ?_
          refine mv_slenK (i := 5) (v := 4) d_TrustDeskModel_isWord_30 lV_TrustDeskModel_214 (by decide) rfl (by decide) (Nat.le_of_ble_eq_true rfl) ?_
          refine mv_icmp_ge_f (tgt := 63) d_TrustDeskModel_isWord_33 (by decide) (by decide) ?_
          refine mv_aload_n d_TrustDeskModel_isWord_36 rfl rfl ?_
          refine tr_getK (k := 13) q10 d_TrustDeskModel_isWord_37 f_TrustDeskModel_44_13 ?_
          refine mv_aload_n d_TrustDeskModel_isWord_40 rfl rfl ?_
          refine tr_getK (k := 16) q6 d_TrustDeskModel_isWord_41 f_TrustDeskModel_195_13 ?_
          refine mv_iload_n d_TrustDeskModel_isWord_44 rfl rfl ?_
          refine mv_iadd d_TrustDeskModel_isWord_45 ?_
          have b22 : (v7 + 2 : Int32).toInt = (v7.toInt + 2) := mz_add2 rfl (by decide) (by have := yR.1 15 _ _ rfl; have := yR.1 16 _ _ rfl; have := yR.1 19 _ _ rfl; omega) (by have := yR.1 15 _ _ rfl; have := yR.1 16 _ _ rfl; have := yR.1 19 _ _ rfl; omega)
          refine tr_baldR (o := o0) (k := 13) I0 q10 t_a11 (by decide) d_TrustDeskModel_isWord_46 (vp_in_iff.mpr (by have := yR.1 15 _ _ rfl; have := yR.1 16 _ _ rfl; have := yR.1 19 _ _ rfl; omega)) (fun v23 e24 => ?_)
          have := yR.a (k := 13) rfl ((v7 + 2) : Int32).toNatClampNeg
          have h25 : (v7 + 2).toNatClampNeg = (rv M0 o0 16).toNat + 2 := by have := mz_nat9 (i := (v7 + 2)) (by have := yR.1 15 _ _ rfl; have := yR.1 16 _ _ rfl; have := yR.1 19 _ _ rfl; omega); have := yR.1 15 _ _ rfl; have := yR.1 16 _ _ rfl; have := yR.1 19 _ _ rfl; omega
          have : v23.toInt = ra M0 o0 13 ((rv M0 o0 16).toNat + 2) := by rw [e24, h25]
          refine mv_aload_n d_TrustDeskModel_isWord_47 rfl rfl ?_
          refine mv_iload_n d_TrustDeskModel_isWord_48 rfl rfl ?_
          refine mv_schC (i := 5) (v := 101) d_TrustDeskModel_isWord_49 lV_TrustDeskModel_220 (by decide) rfl (by decide) (by decide) (Nat.le_of_ble_eq_true rfl) (by decide) ?_
          have := mz_hi v23
          refine mv_icmp_eqZ (tgt := 57) (a := v23.toInt) (b := 101) d_TrustDeskModel_isWord_52 (by decide) rfl (by decide) (fun b26 => ?_) (fun b26 => ?_)
          · refine mv_iinc (v := 3) (lv' := [(2, .int 3), (0, .ref o0), (1, .ref 15)]) d_TrustDeskModel_isWord_57 rfl (by decide) (by decide) rfl ?_
            refine mv_goto (tgt := 28) d_TrustDeskModel_isWord_60 (by decide) ?_
            refine mv_iload_n d_TrustDeskModel_isWord_28 rfl rfl ?_
            refine mv_aload_n d_TrustDeskModel_isWord_29 rfl rfl ?_
            refine mv_slenK (i := 5) (v := 4) d_TrustDeskModel_isWord_30 lV_TrustDeskModel_214 (by decide) rfl (by decide) (Nat.le_of_ble_eq_true rfl) ?_
            refine mv_icmp_ge_f (tgt := 63) d_TrustDeskModel_isWord_33 (by decide) (by decide) ?_
            refine mv_aload_n d_TrustDeskModel_isWord_36 rfl rfl ?_
            refine tr_getK (k := 13) q10 d_TrustDeskModel_isWord_37 f_TrustDeskModel_44_13 ?_
            refine mv_aload_n d_TrustDeskModel_isWord_40 rfl rfl ?_
            refine tr_getK (k := 16) q6 d_TrustDeskModel_isWord_41 f_TrustDeskModel_195_13 ?_
            refine mv_iload_n d_TrustDeskModel_isWord_44 rfl rfl ?_
            refine mv_iadd d_TrustDeskModel_isWord_45 ?_
            have b27 : (v7 + 3 : Int32).toInt = (v7.toInt + 3) := mz_add2 rfl (by decide) (by have := yR.1 15 _ _ rfl; have := yR.1 16 _ _ rfl; have := yR.1 19 _ _ rfl; omega) (by have := yR.1 15 _ _ rfl; have := yR.1 16 _ _ rfl; have := yR.1 19 _ _ rfl; omega)
            refine tr_baldR (o := o0) (k := 13) I0 q10 t_a11 (by decide) d_TrustDeskModel_isWord_46 (vp_in_iff.mpr (by have := yR.1 15 _ _ rfl; have := yR.1 16 _ _ rfl; have := yR.1 19 _ _ rfl; omega)) (fun v28 e29 => ?_)
            have := yR.a (k := 13) rfl ((v7 + 3) : Int32).toNatClampNeg
            have h30 : (v7 + 3).toNatClampNeg = (rv M0 o0 16).toNat + 3 := by have := mz_nat9 (i := (v7 + 3)) (by have := yR.1 15 _ _ rfl; have := yR.1 16 _ _ rfl; have := yR.1 19 _ _ rfl; omega); have := yR.1 15 _ _ rfl; have := yR.1 16 _ _ rfl; have := yR.1 19 _ _ rfl; omega
            have : v28.toInt = ra M0 o0 13 ((rv M0 o0 16).toNat + 3) := by rw [e29, h30]
            refine mv_aload_n d_TrustDeskModel_isWord_47 rfl rfl ?_
            refine mv_iload_n d_TrustDeskModel_isWord_48 rfl rfl ?_
            refine mv_schC (i := 5) (v := 112) d_TrustDeskModel_isWord_49 lV_TrustDeskModel_220 (by decide) rfl (by decide) (by decide) (Nat.le_of_ble_eq_true rfl) (by decide) ?_
            have := mz_hi v28
            refine mv_icmp_eqZ (tgt := 57) (a := v28.toInt) (b := 112) d_TrustDeskModel_isWord_52 (by decide) rfl (by decide) (fun b31 => ?_) (fun b31 => ?_)
            · refine mv_iinc (v := 4) (lv' := [(2, .int 4), (0, .ref o0), (1, .ref 15)]) d_TrustDeskModel_isWord_57 rfl (by decide) (by decide) rfl ?_
              refine mv_goto (tgt := 28) d_TrustDeskModel_isWord_60 (by decide) ?_
              refine mv_iload_n d_TrustDeskModel_isWord_28 rfl rfl ?_
              refine mv_aload_n d_TrustDeskModel_isWord_29 rfl rfl ?_
              refine mv_slenK (i := 5) (v := 4) d_TrustDeskModel_isWord_30 lV_TrustDeskModel_214 (by decide) rfl (by decide) (Nat.le_of_ble_eq_true rfl) ?_
              refine mv_icmp_ge_t (tgt := 63) d_TrustDeskModel_isWord_33 (by decide) (by decide) ?_
              refine mv_iconst (v := 1) d_TrustDeskModel_isWord_63 (by decide) ?_
              exact mv_iret d_TrustDeskModel_isWord_64 rfl (by decide) ⟨_, I0, _, rfl, by decide, by decide, yR, (fun _ => by have := yR.1 15 _ _ rfl; have := yR.1 16 _ _ rfl; have := yR.1 19 _ _ rfl; omega), (fun _ => ⟨by have := yR.1 15 _ _ rfl; have := yR.1 16 _ _ rfl; have := yR.1 19 _ _ rfl; omega, by have := yR.1 15 _ _ rfl; have := yR.1 16 _ _ rfl; have := yR.1 19 _ _ rfl; omega, by have := yR.1 15 _ _ rfl; have := yR.1 16 _ _ rfl; have := yR.1 19 _ _ rfl; omega, by have := yR.1 15 _ _ rfl; have := yR.1 16 _ _ rfl; have := yR.1 19 _ _ rfl; omega, by have := yR.1 15 _ _ rfl; have := yR.1 16 _ _ rfl; have := yR.1 19 _ _ rfl; omega, by have := yR.1 15 _ _ rfl; have := yR.1 16 _ _ rfl; have := yR.1 19 _ _ rfl; omega⟩), (fun h => absurd h (by decide))⟩
            · refine mv_iconst (v := 0) d_TrustDeskModel_isWord_55 (by decide) ?_
              exact mv_iret d_TrustDeskModel_isWord_56 rfl (by decide) ⟨_, I0, _, rfl, by decide, by decide, yR, (fun h => absurd h (by decide)), (fun h => absurd h (by decide)), (fun _ h => by obtain ⟨h1, h2, h3, h4, h5, h6⟩ := h; have := yR.1 15 _ _ rfl; have := yR.1 16 _ _ rfl; have := yR.1 19 _ _ rfl; omega)⟩
          · refine mv_iconst (v := 0) d_TrustDeskModel_isWord_55 (by decide) ?_
            exact mv_iret d_TrustDeskModel_isWord_56 rfl (by decide) ⟨_, I0, _, rfl, by decide, by decide, yR, (fun h => absurd h (by decide)), (fun h => absurd h (by decide)), (fun _ h => by obtain ⟨h1, h2, h3, h4, h5, h6⟩ := h; have := yR.1 15 _ _ rfl; have := yR.1 16 _ _ rfl; have := yR.1 19 _ _ rfl; omega)⟩
        · refine mv_iconst (v := 0) d_TrustDeskModel_isWord_55 (by decide) ?_
          exact mv_iret d_TrustDeskModel_isWord_56 rfl (by decide) ⟨_, I0, _, rfl, by decide, by decide, yR, (fun h => absurd h (by decide)), (fun h => absurd h (by decide)), (fun _ h => by obtain ⟨h1, h2, h3, h4, h5, h6⟩ := h; have := yR.1 15 _ _ rfl; have := yR.1 16 _ _ rfl; have := yR.1 19 _ _ rfl; omega)⟩
      · refine mv_iconst (v := 0) d_TrustDeskModel_isWord_55 (by decide) ?_
        exact mv_iret d_TrustDeskModel_isWord_56 rfl (by decide) ⟨_, I0, _, rfl, by decide, by decide, yR, (fun h => absurd h (by decide)), (fun h => absurd h (by decide)), (fun _ h => by obtain ⟨h1, h2, h3, h4, h5, h6⟩ := h; have := yR.1 15 _ _ rfl; have := yR.1 16 _ _ rfl; have := yR.1 19 _ _ rfl; omega)⟩
    · refine mv_iconst (v := 0) d_TrustDeskModel_isWord_24 (by decide) ?_
      exact mv_iret d_TrustDeskModel_isWord_25 rfl (by decide) ⟨_, I0, _, rfl, by decide, by decide, yR, (fun h => absurd h (by decide)), (fun h => absurd h (by decide)), (fun _ h => by obtain ⟨h1, h2, h3, h4, h5, h6⟩ := h; have := yR.1 15 _ _ rfl; have := yR.1 16 _ _ rfl; have := yR.1 19 _ _ rfl; omega)⟩
theorem d_TrustDeskModel_ruleWord_21 : decode kY_TrustDeskModel_ruleWord.2.1 21 = .ok (.ifCond .eq 7, 3) := by decide +kernel
theorem d_TrustDeskModel_ruleWord_28 : decode kY_TrustDeskModel_ruleWord.2.1 28 = .ok (.aload_n 0, 1) := by decide +kernel
theorem d_TrustDeskModel_ruleWord_29 : decode kY_TrustDeskModel_ruleWord.2.1 29 = .ok (.ldc_w 355, 3) := by decide +kernel
theorem d_TrustDeskModel_ruleWord_32 : decode kY_TrustDeskModel_ruleWord.2.1 32 = .ok (.invokevirtual 244, 3) := by decide +kernel
def w_TrustDeskModel_isWord_s1_16_x : List Nat := []
set_option maxHeartbeats 100000000 in theorem tc_TrustDeskModel_isWord_s1_16_x {g : mj_G} {l : Launch} {d : Nat} {T0 : tm_H} {M0 : mj_M} {n0 x9 : Nat} {o0 : Nat} (h_o0 : T0 o0 = some (0, 13, 0)) (yR : rI M0 o0) (I0 : tm_I tm_FT (tm_in w_TrustDeskModel_isWord_s1_16_x) x9 T0 M0 n0 T0 M0 n0) : mj_Met g l kY_TrustDeskModel_isWord (d + 4) [.ref o0, .ref 16] M0 n0 0 0 (tm_Q tm_FT (tm_in w_TrustDeskModel_isWord_s1_16_x) x9 T0 M0 n0 (fun r _ M => ∃ v : Int32, r = some (.int v) ∧ 0 ≤ v.toInt ∧ v.toInt ≤ 1 ∧ rI M o0 ∧ (v.toInt = 1 → rv M0 o0 17 = 3) ∧ (v.toInt = 1 → rv M0 o0 17 = 3 ∧ rv M0 o0 15 - rv M0 o0 16 = 4 ∧ ra M0 o0 13 ((rv M0 o0 16).toNat + 0) = 100 ∧ ra M0 o0 13 ((rv M0 o0 16).toNat + 1) = 97 ∧ ra M0 o0 13 ((rv M0 o0 16).toNat + 2) = 121 ∧ ra M0 o0 13 ((rv M0 o0 16).toNat + 3) = 115) ∧ (v.toInt = 0 → ¬ (rv M0 o0 17 = 3 ∧ rv M0 o0 15 - rv M0 o0 16 = 4 ∧ ra M0 o0 13 ((rv M0 o0 16).toNat + 0) = 100 ∧ ra M0 o0 13 ((rv M0 o0 16).toNat + 1) = 97 ∧ ra M0 o0 13 ((rv M0 o0 16).toNat + 2) = 121 ∧ ra M0 o0 13 ((rv M0 o0 16).toNat + 3) = 115)))) := by
  refine mj_enter (by decide) (Nat.le_of_ble_eq_true rfl) ?_
  refine mv_aload_n d_TrustDeskModel_isWord_0 rfl rfl ?_
  obtain ⟨v2, q1⟩ := tm_atI I0 h_o0 (k := 17) rfl
  refine tr_getK q1 d_TrustDeskModel_isWord_1 f_TrustDeskModel_198_13 ?_
  have := tm_rv q1
  refine mv_iconst (v := 3) d_TrustDeskModel_isWord_4 (by decide) ?_
  have := mz_hi v2
  refine mv_icmp_neZ (tgt := 24) (a := v2.toInt) (b := 3) d_TrustDeskModel_isWord_5 (by decide) rfl (by decide) (fun b3 => ?_) (fun b3 => ?_)
  · refine mv_iconst (v := 0) d_TrustDeskModel_isWord_24 (by decide) ?_
    exact mv_iret d_TrustDeskModel_isWord_25 rfl (by decide) ⟨_, I0, _, rfl, by decide, by decide, yR, (fun h => absurd h (by decide)), (fun h => absurd h (by decide)), (fun _ h => by obtain ⟨h1, h2, h3, h4, h5, h6⟩ := h; have := yR.1 15 _ _ rfl; have := yR.1 16 _ _ rfl; have := yR.1 19 _ _ rfl; omega)⟩
  · refine mv_aload_n d_TrustDeskModel_isWord_8 rfl rfl ?_
    obtain ⟨v5, q4⟩ := tm_atI I0 h_o0 (k := 15) rfl
    refine tr_getK q4 d_TrustDeskModel_isWord_9 f_TrustDeskModel_192_13 ?_
    have := yR.f (k := 15) q4 rfl
    have := tm_rv q4
    refine mv_aload_n d_TrustDeskModel_isWord_12 rfl rfl ?_
    obtain ⟨v7, q6⟩ := tm_atI I0 h_o0 (k := 16) rfl
    refine tr_getK q6 d_TrustDeskModel_isWord_13 f_TrustDeskModel_195_13 ?_
    have := yR.f (k := 16) q6 rfl
    have := tm_rv q6
    refine mv_isub d_TrustDeskModel_isWord_16 ?_
    refine mv_aload_n d_TrustDeskModel_isWord_17 rfl rfl ?_
    refine mv_slenK (i := 6) (v := 4) d_TrustDeskModel_isWord_18 lV_TrustDeskModel_214 (by decide) rfl (by decide) (Nat.le_of_ble_eq_true rfl) ?_
    have b8 : (v5 - v7 : Int32).toInt = (v5.toInt - v7.toInt) := mz_sub2 rfl rfl (by have := yR.1 15 _ _ rfl; have := yR.1 16 _ _ rfl; have := yR.1 19 _ _ rfl; omega) (by have := yR.1 15 _ _ rfl; have := yR.1 16 _ _ rfl; have := yR.1 19 _ _ rfl; omega)
    have := mz_hi (v5 - v7)
    refine mv_icmp_eqZ (tgt := 26) (a := (v5 - v7).toInt) (b := 4) d_TrustDeskModel_isWord_21 (by decide) rfl (by decide) (fun b9 => ?_) (fun b9 => ?_)
    · refine mv_iconst (v := 0) d_TrustDeskModel_isWord_26 (by decide) ?_
      refine mv_istore_n (lv' := [(2, .int 0), (0, .ref o0), (1, .ref 16)]) d_TrustDeskModel_isWord_27 rfl (by decide) rfl ?_
      refine mv_iload_n d_TrustDeskModel_isWord_28 rfl rfl ?_
      refine mv_aload_n d_TrustDeskModel_isWord_29 rfl rfl ?_
      refine mv_slenK (i := 6) (v := 4) d_TrustDeskModel_isWord_30 lV_TrustDeskModel_214 (by decide) rfl (by decide) (Nat.le_of_ble_eq_true rfl) ?_
      refine mv_icmp_ge_f (tgt := 63) d_TrustDeskModel_isWord_33 (by decide) (by decide) ?_
      refine mv_aload_n d_TrustDeskModel_isWord_36 rfl rfl ?_
      obtain ⟨a11, q10, t_a11⟩ := tm_atR I0 h_o0 (k := 13) rfl
      refine tr_getK q10 d_TrustDeskModel_isWord_37 f_TrustDeskModel_44_13 ?_
      refine mv_aload_n d_TrustDeskModel_isWord_40 rfl rfl ?_
      refine tr_getK (k := 16) q6 d_TrustDeskModel_isWord_41 f_TrustDeskModel_195_13 ?_
      refine mv_iload_n d_TrustDeskModel_isWord_44 rfl rfl ?_
      refine mv_iadd d_TrustDeskModel_isWord_45 ?_
      have b12 : (v7 + 0 : Int32).toInt = (v7.toInt + 0) := mz_add2 rfl (by decide) (by have := yR.1 15 _ _ rfl; have := yR.1 16 _ _ rfl; have := yR.1 19 _ _ rfl; omega) (by have := yR.1 15 _ _ rfl; have := yR.1 16 _ _ rfl; have := yR.1 19 _ _ rfl; omega)
      refine tr_baldR (o := o0) (k := 13) I0 q10 t_a11 (by decide) d_TrustDeskModel_isWord_46 (vp_in_iff.mpr (by have := yR.1 15 _ _ rfl; have := yR.1 16 _ _ rfl; have := yR.1 19 _ _ rfl; omega)) (fun v13 e14 => ?_)
      have := yR.a (k := 13) rfl ((v7 + 0) : Int32).toNatClampNeg
      have h15 : (v7 + 0).toNatClampNeg = (rv M0 o0 16).toNat + 0 := by have := mz_nat9 (i := (v7 + 0)) (by have := yR.1 15 _ _ rfl; have := yR.1 16 _ _ rfl; have := yR.1 19 _ _ rfl; omega); have := yR.1 15 _ _ rfl; have := yR.1 16 _ _ rfl; have := yR.1 19 _ _ rfl; omega
      have : v13.toInt = ra M0 o0 13 ((rv M0 o0 16).toNat + 0) := by rw [e14, h15]
      refine mv_aload_n d_TrustDeskModel_isWord_47 rfl rfl ?_
      refine mv_iload_n d_TrustDeskModel_isWord_48 rfl rfl ?_
      refine mv_schC (i := 6) (v := 100) d_TrustDeskModel_isWord_49 lV_TrustDeskModel_220 (by decide) rfl (by decide) (by decide) (Nat.le_of_ble_eq_true rfl) (by decide) ?_
      have := mz_hi v13
      refine mv_icmp_eqZ (tgt := 57) (a := v13.toInt) (b := 100) d_TrustDeskModel_isWord_52 (by decide) rfl (by decide) (fun b16 => ?_) (fun b16 => ?_)
      · refine mv_iinc (v := 1) (lv' := [(2, .int 1), (0, .ref o0), (1, .ref 16)]) d_TrustDeskModel_isWord_57 rfl (by decide) (by decide) rfl ?_
        refine mv_goto (tgt := 28) d_TrustDeskModel_isWord_60 (by decide) ?_
        refine mv_iload_n d_TrustDeskModel_isWord_28 rfl rfl ?_
        refine mv_aload_n d_TrustDeskModel_isWord_29 rfl rfl ?_
        refine mv_slenK (i := 6) (v := 4) d_TrustDeskModel_isWord_30 lV_TrustDeskModel_214 (by decide) rfl (by decide) (Nat.le_of_ble_eq_true rfl) ?_
        refine mv_icmp_ge_f (tgt := 63) d_TrustDeskModel_isWord_33 (by decide) (by decide) ?_
        refine mv_aload_n d_TrustDeskModel_isWord_36 rfl rfl ?_
        refine tr_getK (k := 13) q10 d_TrustDeskModel_isWord_37 f_TrustDeskModel_44_13 ?_
        refine mv_aload_n d_TrustDeskModel_isWord_40 rfl rfl ?_
        refine tr_getK (k := 16) q6 d_TrustDeskModel_isWord_41 f_TrustDeskModel_195_13 ?_
        refine mv_iload_n d_TrustDeskModel_isWord_44 rfl rfl ?_
        refine mv_iadd d_TrustDeskModel_isWord_45 ?_
        have b17 : (v7 + 1 : Int32).toInt = (v7.toInt + 1) := mz_add2 rfl (by decide) (by have := yR.1 15 _ _ rfl; have := yR.1 16 _ _ rfl; have := yR.1 19 _ _ rfl; omega) (by have := yR.1 15 _ _ rfl; have := yR.1 16 _ _ rfl; have := yR.1 19 _ _ rfl; omega)
        refine tr_baldR (o := o0) (k := 13) I0 q10 t_a11 (by decide) d_TrustDeskModel_isWord_46 (vp_in_iff.mpr (by have := yR.1 15 _ _ rfl; have := yR.1 16 _ _ rfl; have := yR.1 19 _ _ rfl; omega)) (fun v18 e19 => ?_)
        have := yR.a (k := 13) rfl ((v7 + 1) : Int32).toNatClampNeg
        have h20 : (v7 + 1).toNatClampNeg = (rv M0 o0 16).toNat + 1 := by have := mz_nat9 (i := (v7 + 1)) (by have := yR.1 15 _ _ rfl; have := yR.1 16 _ _ rfl; have := yR.1 19 _ _ rfl; omega); have := yR.1 15 _ _ rfl; have := yR.1 16 _ _ rfl; have := yR.1 19 _ _ rfl; omega
        have : v18.toInt = ra M0 o0 13 ((rv M0 o0 16).toNat + 1) := by rw [e19, h20]
        refine mv_aload_n d_TrustDeskModel_isWord_47 rfl rfl ?_
        refine mv_iload_n d_TrustDeskModel_isWord_48 rfl rfl ?_
        refine mv_schC (i := 6) (v := 97) d_TrustDeskModel_isWord_49 lV_TrustDeskModel_220 (by decide) rfl (by decide) (by decide) (Nat.le_of_ble_eq_true rfl) (by decide) ?_
        have := mz_hi v18
        refine mv_icmp_eqZ (tgt := 57) (a := v18.toInt) (b := 97) d_TrustDeskModel_isWord_52 (by decide) rfl (by decide) (fun b21 => ?_) (fun b21 => ?_)
        · refine mv_iinc (v := 2) (lv' := [(2, .int 2), (0, .ref o0), (1, .ref 16)]) d_TrustDeskModel_isWord_57 rfl (by decide) (by decide) rfl ?_
          refine mv_goto (tgt := 28) d_TrustDeskModel_isWord_60 (by decide) ?_
          refine mv_iload_n d_TrustDeskModel_isWord_28 rfl rfl ?_
          refine mv_aload_n d_TrustDeskModel_isWord_29 rfl rfl ?_
          refine mv_slenK (i := 6) (v := 4) d_TrustDeskModel_isWord_30 lV_TrustDeskModel_214 (by decide) rfl (by decide) (Nat.le_of_ble_eq_true rfl) ?_
          refine mv_icmp_ge_f (tgt := 63) d_TrustDeskModel_isWord_33 (by decide) (by decide) ?_
          refine mv_aload_n d_TrustDeskModel_isWord_36 rfl rfl ?_
          refine tr_getK (k := 13) q10 d_TrustDeskModel_isWord_37 f_TrustDeskModel_44_13 ?_
          refine mv_aload_n d_TrustDeskModel_isWord_40 rfl rfl ?_
          refine tr_getK (k := 16) q6 d_TrustDeskModel_isWord_41 f_TrustDeskModel_195_13 ?_
          refine mv_iload_n d_TrustDeskModel_isWord_44 rfl rfl ?_
          refine mv_iadd d_TrustDeskModel_isWord_45 ?_
          have b22 : (v7 + 2 : Int32).toInt = (v7.toInt + 2) := mz_add2 rfl (by decide) (by have := yR.1 15 _ _ rfl; have := yR.1 16 _ _ rfl; have := yR.1 19 _ _ rfl; omega) (by have := yR.1 15 _ _ rfl; have := yR.1 16 _ _ rfl; have := yR.1 19 _ _ rfl; omega)
          refine tr_baldR (o := o0) (k := 13) I0 q10 t_a11 (by decide) d_TrustDeskModel_isWord_46 (vp_in_iff.mpr (by have := yR.1 15 _ _ rfl; have := yR.1 16 _ _ rfl; have := yR.1 19 _ _ rfl; omega)) (fun v23 e24 => ?_)
          have := yR.a (k := 13) rfl ((v7 + 2) : Int32).toNatClampNeg
          have h25 : (v7 + 2).toNatClampNeg = (rv M0 o0 16).toNat + 2 := by have := mz_nat9 (i := (v7 + 2)) (by have := yR.1 15 _ _ rfl; have := yR.1 16 _ _ rfl; have := yR.1 19 _ _ rfl; omega); have := yR.1 15 _ _ rfl; have := yR.1 16 _ _ rfl; have := yR.1 19 _ _ rfl; omega
          have : v23.toInt = ra M0 o0 13 ((rv M0 o0 16).toNat + 2) := by rw [e24, h25]
          refine mv_aload_n d_TrustDeskModel_isWord_47 rfl rfl ?_
          refine mv_iload_n d_TrustDeskModel_isWord_48 rfl rfl ?_
          refine mv_schC (i := 6) (v := 121) d_TrustDeskModel_isWord_49 lV_TrustDeskModel_220 (by decide) rfl (by decide) (by decide) (Nat.le_of_ble_eq_true rfl) (by decide) ?_
          have := mz_hi v23
          refine mv_icmp_eqZ (tgt := 57) (a := v23.toInt) (b := 121) d_TrustDeskModel_isWord_52 (by decide) rfl (by decide) (fun b26 => ?_) (fun b26 => ?_)
          · refine mv_iinc (v := 3) (lv' := [(2, .int 3), (0, .ref o0), (1, .ref 16)]) d_TrustDeskModel_isWord_57 rfl (by decide) (by decide) rfl ?_
            refine mv_goto (tgt := 28) d_TrustDeskModel_isWord_60 (by decide) ?_
            refine mv_iload_n d_TrustDeskModel_isWord_28 rfl rfl ?_
            refine mv_aload_n d_TrustDeskModel_isWord_29 rfl rfl ?_
            refine mv_slenK (i := 6) (v := 4) d_TrustDeskModel_isWord_30 lV_TrustDeskModel_214 (by decide) rfl (by decide) (Nat.le_of_ble_eq_true rfl) ?_
            refine mv_icmp_ge_f (tgt := 63) d_TrustDeskModel_isWord_33 (by decide) (by decide) ?_
            refine mv_aload_n d_TrustDeskModel_isWord_36 rfl rfl ?_
            refine tr_getK (k := 13) q10 d_TrustDeskModel_isWord_37 f_TrustDeskModel_44_13 ?_
            refine mv_aload_n d_TrustDeskModel_isWord_40 rfl rfl ?_
            refine tr_getK (k := 16) q6 d_TrustDeskModel_isWord_41 f_TrustDeskModel_195_13 ?_
            refine mv_iload_n d_TrustDeskModel_isWord_44 rfl rfl ?_
            refine mv_iadd d_TrustDeskModel_isWord_45 ?_
            have b27 : (v7 + 3 : Int32).toInt = (v7.toInt + 3) := mz_add2 rfl (by decide) (by have := yR.1 15 _ _ rfl; have := yR.1 16 _ _ rfl; have := yR.1 19 _ _ rfl; omega) (by have := yR.1 15 _ _ rfl; have := yR.1 16 _ _ rfl; have := yR.1 19 _ _ rfl; omega)
            refine tr_baldR (o := o0) (k := 13) I0 q10 t_a11 (by decide) d_TrustDeskModel_isWord_46 (vp_in_iff.mpr (by have := yR.1 15 _ _ rfl; have := yR.1 16 _ _ rfl; have := yR.1 19 _ _ rfl; omega)) (fun v28 e29 => ?_)
            have := yR.a (k := 13) rfl ((v7 + 3) : Int32).toNatClampNeg
            have h30 : (v7 + 3).toNatClampNeg = (rv M0 o0 16).toNat + 3 := by have := mz_nat9 (i := (v7 + 3)) (by have := yR.1 15 _ _ rfl; have := yR.1 16 _ _ rfl; have := yR.1 19 _ _ rfl; omega); have := yR.1 15 _ _ rfl; have := yR.1 16 _ _ rfl; have := yR.1 19 _ _ rfl; omega
            have : v28.toInt = ra M0 o0 13 ((rv M0 o0 16).toNat + 3) := by rw [e29, h30]
            refine mv_aload_n d_TrustDeskModel_isWord_47 rfl rfl ?_
            refine mv_iload_n d_TrustDeskModel_isWord_48 rfl rfl ?_
            refine mv_schC (i := 6) (v := 115) d_TrustDeskModel_isWord_49 lV_TrustDeskModel_220 (by decide) rfl (by decide) (by decide) (Nat.le_of_ble_eq_true rfl) (by decide) ?_
            have := mz_hi v28
            refine mv_icmp_eqZ (tgt := 57) (a := v28.toInt) (b := 115) d_TrustDeskModel_isWord_52 (by decide) rfl (by decide) (fun b31 => ?_) (fun b31 => ?_)
            · refine mv_iinc (v := 4) (lv' := [(2, .int 4), (0, .ref o0), (1, .ref 16)]) d_TrustDeskModel_isWord_57 rfl (by decide) (by decide) rfl ?_
              refine mv_goto (tgt := 28) d_TrustDeskModel_isWord_60 (by decide) ?_
              refine mv_iload_n d_TrustDeskModel_isWord_28 rfl rfl ?_
              refine mv_aload_n d_TrustDeskModel_isWord_29 rfl rfl ?_
              refine mv_slenK (i := 6) (v := 4) d_TrustDeskModel_isWord_30 lV_TrustDeskModel_214 (by decide) rfl (by decide) (Nat.le_of_ble_eq_true rfl) ?_
              refine mv_icmp_ge_t (tgt := 63) d_TrustDeskModel_isWord_33 (by decide) (by decide) ?_
              refine mv_iconst (v := 1) d_TrustDeskModel_isWord_63 (by decide) ?_
              exact mv_iret d_TrustDeskModel_isWord_64 rfl (by decide) ⟨_, I0, _, rfl, by decide, by decide, yR, (fun _ => by have := yR.1 15 _ _ rfl; have := yR.1 16 _ _ rfl; have := yR.1 19 _ _ rfl; omega), (fun _ => ⟨by have := yR.1 15 _ _ rfl; have := yR.1 16 _ _ rfl; have := yR.1 19 _ _ rfl; omega, by have := yR.1 15 _ _ rfl; have := yR.1 16 _ _ rfl; have := yR.1 19 _ _ rfl; omega, by have := yR.1 15 _ _ rfl; have := yR.1 16 _ _ rfl; have := yR.1 19 _ _ rfl; omega, by have := yR.1 15 _ _ rfl; have := yR.1 16 _ _ rfl; have := yR.1 19 _ _ rfl; omega, by have := yR.1 15 _ _ rfl; have := yR.1 16 _ _ rfl; have := yR.1 19 _ _ rfl; omega, by have := yR.1 15 _ _ rfl; have := yR.1 16 _ _ rfl; have := yR.1 19 _ _ rfl; omega⟩), (fun h => absurd h (by decide))⟩
            · refine mv_iconst (v := 0) d_TrustDeskModel_isWord_55 (by decide) ?_
              exact mv_iret d_TrustDeskModel_isWord_56 rfl (by decide) ⟨_, I0, _, rfl, by decide, by decide, yR, (fun h => absurd h (by decide)), (fun h => absurd h (by decide)), (fun _ h => by obtain ⟨h1, h2, h3, h4, h5, h6⟩ := h; have := yR.1 15 _ _ rfl; have := yR.1 16 _ _ rfl; have := yR.1 19 _ _ rfl; omega)⟩
          · refine mv_iconst (v := 0) d_TrustDeskModel_isWord_55 (by decide) ?_
            exact mv_iret d_TrustDeskModel_isWord_56 rfl (by decide) ⟨_, I0, _, rfl, by decide, by decide, yR, (fun h => absurd h (by decide)), (fun h => absurd h (by decide)), (fun _ h => by obtain ⟨h1, h2, h3, h4, h5, h6⟩ := h; have := yR.1 15 _ _ rfl; have := yR.1 16 _ _ rfl; have := yR.1 19 _ _ rfl; omega)⟩
        · refine mv_iconst (v := 0) d_TrustDeskModel_isWord_55 (by decide) ?_
          exact mv_iret d_TrustDeskModel_isWord_56 rfl (by decide) ⟨_, I0, _, rfl, by decide, by decide, yR, (fun h => absurd h (by decide)), (fun h => absurd h (by decide)), (fun _ h => by obtain ⟨h1, h2, h3, h4, h5, h6⟩ := h; have := yR.1 15 _ _ rfl; have := yR.1 16 _ _ rfl; have := yR.1 19 _ _ rfl; omega)⟩
      · refine mv_iconst (v := 0) d_TrustDeskModel_isWord_55 (by decide) ?_
        exact mv_iret d_TrustDeskModel_isWord_56 rfl (by decide) ⟨_, I0, _, rfl, by decide, by decide, yR, (fun h => absurd h (by decide)), (fun h => absurd h (by decide)), (fun _ h => by obtain ⟨h1, h2, h3, h4, h5, h6⟩ := h; have := yR.1 15 _ _ rfl; have := yR.1 16 _ _ rfl; have := yR.1 19 _ _ rfl; omega)⟩
    · refine mv_iconst (v := 0) d_TrustDeskModel_isWord_24 (by decide) ?_
      exact mv_iret d_TrustDeskModel_isWord_25 rfl (by decide) ⟨_, I0, _, rfl, by decide, by decide, yR, (fun h => absurd h (by decide)), (fun h => absurd h (by decide)), (fun _ h => by obtain ⟨h1, h2, h3, h4, h5, h6⟩ := h; have := yR.1 15 _ _ rfl; have := yR.1 16 _ _ rfl; have := yR.1 19 _ _ rfl; omega)⟩
theorem d_TrustDeskModel_ruleWord_35 : decode kY_TrustDeskModel_ruleWord.2.1 35 = .ok (.ifCond .eq 7, 3) := by decide +kernel
theorem d_TrustDeskModel_ruleWord_42 : decode kY_TrustDeskModel_ruleWord.2.1 42 = .ok (.aload_n 0, 1) := by decide +kernel
theorem d_TrustDeskModel_ruleWord_43 : decode kY_TrustDeskModel_ruleWord.2.1 43 = .ok (.ldc_w 357, 3) := by decide +kernel
theorem d_TrustDeskModel_ruleWord_46 : decode kY_TrustDeskModel_ruleWord.2.1 46 = .ok (.invokevirtual 244, 3) := by decide +kernel
def w_TrustDeskModel_isWord_s1_17_x : List Nat := []
set_option maxHeartbeats 100000000 in theorem tc_TrustDeskModel_isWord_s1_17_x {g : mj_G} {l : Launch} {d : Nat} {T0 : tm_H} {M0 : mj_M} {n0 x9 : Nat} {o0 : Nat} (h_o0 : T0 o0 = some (0, 13, 0)) (yR : rI M0 o0) (I0 : tm_I tm_FT (tm_in w_TrustDeskModel_isWord_s1_17_x) x9 T0 M0 n0 T0 M0 n0) : mj_Met g l kY_TrustDeskModel_isWord (d + 4) [.ref o0, .ref 17] M0 n0 0 0 (tm_Q tm_FT (tm_in w_TrustDeskModel_isWord_s1_17_x) x9 T0 M0 n0 (fun r _ M => ∃ v : Int32, r = some (.int v) ∧ 0 ≤ v.toInt ∧ v.toInt ≤ 1 ∧ rI M o0 ∧ (v.toInt = 1 → rv M0 o0 17 = 3) ∧ (v.toInt = 1 → rv M0 o0 17 = 3 ∧ rv M0 o0 15 - rv M0 o0 16 = 4 ∧ ra M0 o0 13 ((rv M0 o0 16).toNat + 0) = 108 ∧ ra M0 o0 13 ((rv M0 o0 16).toNat + 1) = 97 ∧ ra M0 o0 13 ((rv M0 o0 16).toNat + 2) = 116 ∧ ra M0 o0 13 ((rv M0 o0 16).toNat + 3) = 101) ∧ (v.toInt = 0 → ¬ (rv M0 o0 17 = 3 ∧ rv M0 o0 15 - rv M0 o0 16 = 4 ∧ ra M0 o0 13 ((rv M0 o0 16).toNat + 0) = 108 ∧ ra M0 o0 13 ((rv M0 o0 16).toNat + 1) = 97 ∧ ra M0 o0 13 ((rv M0 o0 16).toNat + 2) = 116 ∧ ra M0 o0 13 ((rv M0 o0 16).toNat + 3) = 101)))) := by
  refine mj_enter (by decide) (Nat.le_of_ble_eq_true rfl) ?_
  refine mv_aload_n d_TrustDeskModel_isWord_0 rfl rfl ?_
  obtain ⟨v2, q1⟩ := tm_atI I0 h_o0 (k := 17) rfl
  refine tr_getK q1 d_TrustDeskModel_isWord_1 f_TrustDeskModel_198_13 ?_
  have := tm_rv q1
  refine mv_iconst (v := 3) d_TrustDeskModel_isWord_4 (by decide) ?_
  have := mz_hi v2
  refine mv_icmp_neZ (tgt := 24) (a := v2.toInt) (b := 3) d_TrustDeskModel_isWord_5 (by decide) rfl (by decide) (fun b3 => ?_) (fun b3 => ?_)
  · refine mv_iconst (v := 0) d_TrustDeskModel_isWord_24 (by decide) ?_
    exact mv_iret d_TrustDeskModel_isWord_25 rfl (by decide) ⟨_, I0, _, rfl, by decide, by decide, yR, (fun h => absurd h (by decide)), (fun h => absurd h (by decide)), (fun _ h => by obtain ⟨h1, h2, h3, h4, h5, h6⟩ := h; have := yR.1 15 _ _ rfl; have := yR.1 16 _ _ rfl; have := yR.1 19 _ _ rfl; omega)⟩
  · refine mv_aload_n d_TrustDeskModel_isWord_8 rfl rfl ?_
    obtain ⟨v5, q4⟩ := tm_atI I0 h_o0 (k := 15) rfl
    refine tr_getK q4 d_TrustDeskModel_isWord_9 f_TrustDeskModel_192_13 ?_
    have := yR.f (k := 15) q4 rfl
    have := tm_rv q4
    refine mv_aload_n d_TrustDeskModel_isWord_12 rfl rfl ?_
    obtain ⟨v7, q6⟩ := tm_atI I0 h_o0 (k := 16) rfl
    refine tr_getK q6 d_TrustDeskModel_isWord_13 f_TrustDeskModel_195_13 ?_
    have := yR.f (k := 16) q6 rfl
    have := tm_rv q6
    refine mv_isub d_TrustDeskModel_isWord_16 ?_
    refine mv_aload_n d_TrustDeskModel_isWord_17 rfl rfl ?_
    refine mv_slenK (i := 7) (v := 4) d_TrustDeskModel_isWord_18 lV_TrustDeskModel_214 (by decide) rfl (by decide) (Nat.le_of_ble_eq_true rfl) ?_
    have b8 : (v5 - v7 : Int32).toInt = (v5.toInt - v7.toInt) := mz_sub2 rfl rfl (by have := yR.1 15 _ _ rfl; have := yR.1 16 _ _ rfl; have := yR.1 19 _ _ rfl; omega) (by have := yR.1 15 _ _ rfl; have := yR.1 16 _ _ rfl; have := yR.1 19 _ _ rfl; omega)
    have := mz_hi (v5 - v7)
    refine mv_icmp_eqZ (tgt := 26) (a := (v5 - v7).toInt) (b := 4) d_TrustDeskModel_isWord_21 (by decide) rfl (by decide) (fun b9 => ?_) (fun b9 => ?_)
    · refine mv_iconst (v := 0) d_TrustDeskModel_isWord_26 (by decide) ?_
      refine mv_istore_n (lv' := [(2, .int 0), (0, .ref o0), (1, .ref 17)]) d_TrustDeskModel_isWord_27 rfl (by decide) rfl ?_
      refine mv_iload_n d_TrustDeskModel_isWord_28 rfl rfl ?_
      refine mv_aload_n d_TrustDeskModel_isWord_29 rfl rfl ?_
      refine mv_slenK (i := 7) (v := 4) d_TrustDeskModel_isWord_30 lV_TrustDeskModel_214 (by decide) rfl (by decide) (Nat.le_of_ble_eq_true rfl) ?_
      refine mv_icmp_ge_f (tgt := 63) d_TrustDeskModel_isWord_33 (by decide) (by decide) ?_
      refine mv_aload_n d_TrustDeskModel_isWord_36 rfl rfl ?_
      obtain ⟨a11, q10, t_a11⟩ := tm_atR I0 h_o0 (k := 13) rfl
      refine tr_getK q10 d_TrustDeskModel_isWord_37 f_TrustDeskModel_44_13 ?_
      refine mv_aload_n d_TrustDeskModel_isWord_40 rfl rfl ?_
      refine tr_getK (k := 16) q6 d_TrustDeskModel_isWord_41 f_TrustDeskModel_195_13 ?_
      refine mv_iload_n d_TrustDeskModel_isWord_44 rfl rfl ?_
      refine mv_iadd d_TrustDeskModel_isWord_45 ?_
      have b12 : (v7 + 0 : Int32).toInt = (v7.toInt + 0) := mz_add2 rfl (by decide) (by have := yR.1 15 _ _ rfl; have := yR.1 16 _ _ rfl; have := yR.1 19 _ _ rfl; omega) (by have := yR.1 15 _ _ rfl; have := yR.1 16 _ _ rfl; have := yR.1 19 _ _ rfl; omega)
      refine tr_baldR (o := o0) (k := 13) I0 q10 t_a11 (by decide) d_TrustDeskModel_isWord_46 (vp_in_iff.mpr (by have := yR.1 15 _ _ rfl; have := yR.1 16 _ _ rfl; have := yR.1 19 _ _ rfl; omega)) (fun v13 e14 => ?_)
      have := yR.a (k := 13) rfl ((v7 + 0) : Int32).toNatClampNeg
      have h15 : (v7 + 0).toNatClampNeg = (rv M0 o0 16).toNat + 0 := by have := mz_nat9 (i := (v7 + 0)) (by have := yR.1 15 _ _ rfl; have := yR.1 16 _ _ rfl; have := yR.1 19 _ _ rfl; omega); have := yR.1 15 _ _ rfl; have := yR.1 16 _ _ rfl; have := yR.1 19 _ _ rfl; omega
      have : v13.toInt = ra M0 o0 13 ((rv M0 o0 16).toNat + 0) := by rw [e14, h15]
      refine mv_aload_n d_TrustDeskModel_isWord_47 rfl rfl ?_
      refine mv_iload_n d_TrustDeskModel_isWord_48 rfl rfl ?_
      refine mv_schC (i := 7) (v := 108) d_TrustDeskModel_isWord_49 lV_TrustDeskModel_220 (by decide) rfl (by decide) (by decide) (Nat.le_of_ble_eq_true rfl) (by decide) ?_
      have := mz_hi v13
      refine mv_icmp_eqZ (tgt := 57) (a := v13.toInt) (b := 108) d_TrustDeskModel_isWord_52 (by decide) rfl (by decide) (fun b16 => ?_) (fun b16 => ?_)
      · refine mv_iinc (v := 1) (lv' := [(2, .int 1), (0, .ref o0), (1, .ref 17)]) d_TrustDeskModel_isWord_57 rfl (by decide) (by decide) rfl ?_
        refine mv_goto (tgt := 28) d_TrustDeskModel_isWord_60 (by decide) ?_
        refine mv_iload_n d_TrustDeskModel_isWord_28 rfl rfl ?_
        refine mv_aload_n d_TrustDeskModel_isWord_29 rfl rfl ?_
        refine mv_slenK (i := 7) (v := 4) d_TrustDeskModel_isWord_30 lV_TrustDeskModel_214 (by decide) rfl (by decide) (Nat.le_of_ble_eq_true rfl) ?_
        refine mv_icmp_ge_f (tgt := 63) d_TrustDeskModel_isWord_33 (by decide) (by decide) ?_
        refine mv_aload_n d_TrustDeskModel_isWord_36 rfl rfl ?_
        refine tr_getK (k := 13) q10 d_TrustDeskModel_isWord_37 f_TrustDeskModel_44_13 ?_
        refine mv_aload_n d_TrustDeskModel_isWord_40 rfl rfl ?_
        refine tr_getK (k := 16) q6 d_TrustDeskModel_isWord_41 f_TrustDeskModel_195_13 ?_
        refine mv_iload_n d_TrustDeskModel_isWord_44 rfl rfl ?_
        refine mv_iadd d_TrustDeskModel_isWord_45 ?_
        have b17 : (v7 + 1 : Int32).toInt = (v7.toInt + 1) := mz_add2 rfl (by decide) (by have := yR.1 15 _ _ rfl; have := yR.1 16 _ _ rfl; have := yR.1 19 _ _ rfl; omega) (by have := yR.1 15 _ _ rfl; have := yR.1 16 _ _ rfl; have := yR.1 19 _ _ rfl; omega)
        refine tr_baldR (o := o0) (k := 13) I0 q10 t_a11 (by decide) d_TrustDeskModel_isWord_46 (vp_in_iff.mpr (by have := yR.1 15 _ _ rfl; have := yR.1 16 _ _ rfl; have := yR.1 19 _ _ rfl; omega)) (fun v18 e19 => ?_)
        have := yR.a (k := 13) rfl ((v7 + 1) : Int32).toNatClampNeg
        have h20 : (v7 + 1).toNatClampNeg = (rv M0 o0 16).toNat + 1 := by have := mz_nat9 (i := (v7 + 1)) (by have := yR.1 15 _ _ rfl; have := yR.1 16 _ _ rfl; have := yR.1 19 _ _ rfl; omega); have := yR.1 15 _ _ rfl; have := yR.1 16 _ _ rfl; have := yR.1 19 _ _ rfl; omega
        have : v18.toInt = ra M0 o0 13 ((rv M0 o0 16).toNat + 1) := by rw [e19, h20]
        refine mv_aload_n d_TrustDeskModel_isWord_47 rfl rfl ?_
        refine mv_iload_n d_TrustDeskModel_isWord_48 rfl rfl ?_
        refine mv_schC (i := 7) (v := 97) d_TrustDeskModel_isWord_49 lV_TrustDeskModel_220 (by decide) rfl (by decide) (by decide) (Nat.le_of_ble_eq_true rfl) (by decide) ?_
        have := mz_hi v18
        refine mv_icmp_eqZ (tgt := 57) (a := v18.toInt) (b := 97) d_TrustDeskModel_isWord_52 (by decide) rfl (by decide) (fun b21 => ?_) (fun b21 => ?_)
        · refine mv_iinc (v := 2) (lv' := [(2, .int 2), (0, .ref o0), (1, .ref 17)]) d_TrustDeskModel_isWord_57 rfl (by decide) (by decide) rfl ?_
          refine mv_goto (tgt := 28) d_TrustDeskModel_isWord_60 (by decide) ?_
          refine mv_iload_n d_TrustDeskModel_isWord_28 rfl rfl ?_
          refine mv_aload_n d_TrustDeskModel_isWord_29 rfl rfl ?_
          refine mv_slenK (i := 7) (v := 4) d_TrustDeskModel_isWord_30 lV_TrustDeskModel_214 (by decide) rfl (by decide) (Nat.le_of_ble_eq_true rfl) ?_
          refine mv_icmp_ge_f (tgt := 63) d_TrustDeskModel_isWord_33 (by decide) (by decide) ?_
          refine mv_aload_n d_TrustDeskModel_isWord_36 rfl rfl ?_
          refine tr_getK (k := 13) q10 d_TrustDeskModel_isWord_37 f_TrustDeskModel_44_13 ?_
          refine mv_aload_n d_TrustDeskModel_isWord_40 rfl rfl ?_
          refine tr_getK (k := 16) q6 d_TrustDeskModel_isWord_41 f_TrustDeskModel_195_13 ?_
          refine mv_iload_n d_TrustDeskModel_isWord_44 rfl rfl ?_
          refine mv_iadd d_TrustDeskModel_isWord_45 ?_
          have b22 : (v7 + 2 : Int32).toInt = (v7.toInt + 2) := mz_add2 rfl (by decide) (by have := yR.1 15 _ _ rfl; have := yR.1 16 _ _ rfl; have := yR.1 19 _ _ rfl; omega) (by have := yR.1 15 _ _ rfl; have := yR.1 16 _ _ rfl; have := yR.1 19 _ _ rfl; omega)
          refine tr_baldR (o := o0) (k := 13) I0 q10 t_a11 (by decide) d_TrustDeskModel_isWord_46 (vp_in_iff.mpr (by have := yR.1 15 _ _ rfl; have := yR.1 16 _ _ rfl; have := yR.1 19 _ _ rfl; omega)) (fun v23 e24 => ?_)
          have := yR.a (k := 13) rfl ((v7 + 2) : Int32).toNatClampNeg
          have h25 : (v7 + 2).toNatClampNeg = (rv M0 o0 16).toNat + 2 := by have := mz_nat9 (i := (v7 + 2)) (by have := yR.1 15 _ _ rfl; have := yR.1 16 _ _ rfl; have := yR.1 19 _ _ rfl; omega); have := yR.1 15 _ _ rfl; have := yR.1 16 _ _ rfl; have := yR.1 19 _ _ rfl; omega
          have : v23.toInt = ra M0 o0 13 ((rv M0 o0 16).toNat + 2) := by rw [e24, h25]
          refine mv_aload_n d_TrustDeskModel_isWord_47 rfl rfl ?_
          refine mv_iload_n d_TrustDeskModel_isWord_48 rfl rfl ?_
          refine mv_schC (i := 7) (v := 116) d_TrustDeskModel_isWord_49 lV_TrustDeskModel_220 (by decide) rfl (by decide) (by decide) (Nat.le_of_ble_eq_true rfl) (by decide) ?_
          have := mz_hi v23
          refine mv_icmp_eqZ (tgt := 57) (a := v23.toInt) (b := 116) d_TrustDeskModel_isWord_52 (by decide) rfl (by decide) (fun b26 => ?_) (fun b26 => ?_)
          · refine mv_iinc (v := 3) (lv' := [(2, .int 3), (0, .ref o0), (1, .ref 17)]) d_TrustDeskModel_isWord_57 rfl (by decide) (by decide) rfl ?_
            refine mv_goto (tgt := 28) d_TrustDeskModel_isWord_60 (by decide) ?_
            refine mv_iload_n d_TrustDeskModel_isWord_28 rfl rfl ?_
            refine mv_aload_n d_TrustDeskModel_isWord_29 rfl rfl ?_
            refine mv_slenK (i := 7) (v := 4) d_TrustDeskModel_isWord_30 lV_TrustDeskModel_214 (by decide) rfl (by decide) (Nat.le_of_ble_eq_true rfl) ?_
            refine mv_icmp_ge_f (tgt := 63) d_TrustDeskModel_isWord_33 (by decide) (by decide) ?_
            refine mv_aload_n d_TrustDeskModel_isWord_36 rfl rfl ?_
            refine tr_getK (k := 13) q10 d_TrustDeskModel_isWord_37 f_TrustDeskModel_44_13 ?_
            refine mv_aload_n d_TrustDeskModel_isWord_40 rfl rfl ?_
            refine tr_getK (k := 16) q6 d_TrustDeskModel_isWord_41 f_TrustDeskModel_195_13 ?_
            refine mv_iload_n d_TrustDeskModel_isWord_44 rfl rfl ?_
            refine mv_iadd d_TrustDeskModel_isWord_45 ?_
            have b27 : (v7 + 3 : Int32).toInt = (v7.toInt + 3) := mz_add2 rfl (by decide) (by have := yR.1 15 _ _ rfl; have := yR.1 16 _ _ rfl; have := yR.1 19 _ _ rfl; omega) (by have := yR.1 15 _ _ rfl; have := yR.1 16 _ _ rfl; have := yR.1 19 _ _ rfl; omega)
            refine tr_baldR (o := o0) (k := 13) I0 q10 t_a11 (by decide) d_TrustDeskModel_isWord_46 (vp_in_iff.mpr (by have := yR.1 15 _ _ rfl; have := yR.1 16 _ _ rfl; have := yR.1 19 _ _ rfl; omega)) (fun v28 e29 => ?_)
            have := yR.a (k := 13) rfl ((v7 + 3) : Int32).toNatClampNeg
            have h30 : (v7 + 3).toNatClampNeg = (rv M0 o0 16).toNat + 3 := by have := mz_nat9 (i := (v7 + 3)) (by have := yR.1 15 _ _ rfl; have := yR.1 16 _ _ rfl; have := yR.1 19 _ _ rfl; omega); have := yR.1 15 _ _ rfl; have := yR.1 16 _ _ rfl; have := yR.1 19 _ _ rfl; omega
            have : v28.toInt = ra M0 o0 13 ((rv M0 o0 16).toNat + 3) := by rw [e29, h30]
            refine mv_aload_n d_TrustDeskModel_isWord_47 rfl rfl ?_
            refine mv_iload_n d_TrustDeskModel_isWord_48 rfl rfl ?_
            refine mv_schC (i := 7) (v := 101) d_TrustDeskModel_isWord_49 lV_TrustDeskModel_220 (by decide) rfl (by decide) (by decide) (Nat.le_of_ble_eq_true rfl) (by decide) ?_
            have := mz_hi v28
            refine mv_icmp_eqZ (tgt := 57) (a := v28.toInt) (b := 101) d_TrustDeskModel_isWord_52 (by decide) rfl (by decide) (fun b31 => ?_) (fun b31 => ?_)
            · refine mv_iinc (v := 4) (lv' := [(2, .int 4), (0, .ref o0), (1, .ref 17)]) d_TrustDeskModel_isWord_57 rfl (by decide) (by decide) rfl ?_
              refine mv_goto (tgt := 28) d_TrustDeskModel_isWord_60 (by decide) ?_
              refine mv_iload_n d_TrustDeskModel_isWord_28 rfl rfl ?_
              refine mv_aload_n d_TrustDeskModel_isWord_29 rfl rfl ?_
              refine mv_slenK (i := 7) (v := 4) d_TrustDeskModel_isWord_30 lV_TrustDeskModel_214 (by decide) rfl (by decide) (Nat.le_of_ble_eq_true rfl) ?_
              refine mv_icmp_ge_t (tgt := 63) d_TrustDeskModel_isWord_33 (by decide) (by decide) ?_
              refine mv_iconst (v := 1) d_TrustDeskModel_isWord_63 (by decide) ?_
              exact mv_iret d_TrustDeskModel_isWord_64 rfl (by decide) ⟨_, I0, _, rfl, by decide, by decide, yR, (fun _ => by have := yR.1 15 _ _ rfl; have := yR.1 16 _ _ rfl; have := yR.1 19 _ _ rfl; omega), (fun _ => ⟨by have := yR.1 15 _ _ rfl; have := yR.1 16 _ _ rfl; have := yR.1 19 _ _ rfl; omega, by have := yR.1 15 _ _ rfl; have := yR.1 16 _ _ rfl; have := yR.1 19 _ _ rfl; omega, by have := yR.1 15 _ _ rfl; have := yR.1 16 _ _ rfl; have := yR.1 19 _ _ rfl; omega, by have := yR.1 15 _ _ rfl; have := yR.1 16 _ _ rfl; have := yR.1 19 _ _ rfl; omega, by have := yR.1 15 _ _ rfl; have := yR.1 16 _ _ rfl; have := yR.1 19 _ _ rfl; omega, by have := yR.1 15 _ _ rfl; have := yR.1 16 _ _ rfl; have := yR.1 19 _ _ rfl; omega⟩), (fun h => absurd h (by decide))⟩
            · refine mv_iconst (v := 0) d_TrustDeskModel_isWord_55 (by decide) ?_
              exact mv_iret d_TrustDeskModel_isWord_56 rfl (by decide) ⟨_, I0, _, rfl, by decide, by decide, yR, (fun h => absurd h (by decide)), (fun h => absurd h (by decide)), (fun _ h => by obtain ⟨h1, h2, h3, h4, h5, h6⟩ := h; have := yR.1 15 _ _ rfl; have := yR.1 16 _ _ rfl; have := yR.1 19 _ _ rfl; omega)⟩
          · refine mv_iconst (v := 0) d_TrustDeskModel_isWord_55 (by decide) ?_
            exact mv_iret d_TrustDeskModel_isWord_56 rfl (by decide) ⟨_, I0, _, rfl, by decide, by decide, yR, (fun h => absurd h (by decide)), (fun h => absurd h (by decide)), (fun _ h => by obtain ⟨h1, h2, h3, h4, h5, h6⟩ := h; have := yR.1 15 _ _ rfl; have := yR.1 16 _ _ rfl; have := yR.1 19 _ _ rfl; omega)⟩
        · refine mv_iconst (v := 0) d_TrustDeskModel_isWord_55 (by decide) ?_
          exact mv_iret d_TrustDeskModel_isWord_56 rfl (by decide) ⟨_, I0, _, rfl, by decide, by decide, yR, (fun h => absurd h (by decide)), (fun h => absurd h (by decide)), (fun _ h => by obtain ⟨h1, h2, h3, h4, h5, h6⟩ := h; have := yR.1 15 _ _ rfl; have := yR.1 16 _ _ rfl; have := yR.1 19 _ _ rfl; omega)⟩
      · refine mv_iconst (v := 0) d_TrustDeskModel_isWord_55 (by decide) ?_
        exact mv_iret d_TrustDeskModel_isWord_56 rfl (by decide) ⟨_, I0, _, rfl, by decide, by decide, yR, (fun h => absurd h (by decide)), (fun h => absurd h (by decide)), (fun _ h => by obtain ⟨h1, h2, h3, h4, h5, h6⟩ := h; have := yR.1 15 _ _ rfl; have := yR.1 16 _ _ rfl; have := yR.1 19 _ _ rfl; omega)⟩
    · refine mv_iconst (v := 0) d_TrustDeskModel_isWord_24 (by decide) ?_
      exact mv_iret d_TrustDeskModel_isWord_25 rfl (by decide) ⟨_, I0, _, rfl, by decide, by decide, yR, (fun h => absurd h (by decide)), (fun h => absurd h (by decide)), (fun _ h => by obtain ⟨h1, h2, h3, h4, h5, h6⟩ := h; have := yR.1 15 _ _ rfl; have := yR.1 16 _ _ rfl; have := yR.1 19 _ _ rfl; omega)⟩
theorem d_TrustDeskModel_ruleWord_49 : decode kY_TrustDeskModel_ruleWord.2.1 49 = .ok (.ifCond .eq 7, 3) := by decide +kernel
theorem d_TrustDeskModel_ruleWord_56 : decode kY_TrustDeskModel_ruleWord.2.1 56 = .ok (.aload_n 0, 1) := by decide +kernel
theorem d_TrustDeskModel_ruleWord_57 : decode kY_TrustDeskModel_ruleWord.2.1 57 = .ok (.ldc_w 359, 3) := by decide +kernel
theorem d_TrustDeskModel_ruleWord_60 : decode kY_TrustDeskModel_ruleWord.2.1 60 = .ok (.invokevirtual 244, 3) := by decide +kernel
def w_TrustDeskModel_isWord_s1_18_x : List Nat := []
set_option maxHeartbeats 100000000 in theorem tc_TrustDeskModel_isWord_s1_18_x {g : mj_G} {l : Launch} {d : Nat} {T0 : tm_H} {M0 : mj_M} {n0 x9 : Nat} {o0 : Nat} (h_o0 : T0 o0 = some (0, 13, 0)) (yR : rI M0 o0) (I0 : tm_I tm_FT (tm_in w_TrustDeskModel_isWord_s1_18_x) x9 T0 M0 n0 T0 M0 n0) : mj_Met g l kY_TrustDeskModel_isWord (d + 4) [.ref o0, .ref 18] M0 n0 0 0 (tm_Q tm_FT (tm_in w_TrustDeskModel_isWord_s1_18_x) x9 T0 M0 n0 (fun r _ M => ∃ v : Int32, r = some (.int v) ∧ 0 ≤ v.toInt ∧ v.toInt ≤ 1 ∧ rI M o0 ∧ (v.toInt = 1 → rv M0 o0 17 = 3) ∧ (v.toInt = 1 → rv M0 o0 17 = 3 ∧ rv M0 o0 15 - rv M0 o0 16 = 4 ∧ ra M0 o0 13 ((rv M0 o0 16).toNat + 0) = 103 ∧ ra M0 o0 13 ((rv M0 o0 16).toNat + 1) = 97 ∧ ra M0 o0 13 ((rv M0 o0 16).toNat + 2) = 105 ∧ ra M0 o0 13 ((rv M0 o0 16).toNat + 3) = 110) ∧ (v.toInt = 0 → ¬ (rv M0 o0 17 = 3 ∧ rv M0 o0 15 - rv M0 o0 16 = 4 ∧ ra M0 o0 13 ((rv M0 o0 16).toNat + 0) = 103 ∧ ra M0 o0 13 ((rv M0 o0 16).toNat + 1) = 97 ∧ ra M0 o0 13 ((rv M0 o0 16).toNat + 2) = 105 ∧ ra M0 o0 13 ((rv M0 o0 16).toNat + 3) = 110)))) := by
  refine mj_enter (by decide) (Nat.le_of_ble_eq_true rfl) ?_
  refine mv_aload_n d_TrustDeskModel_isWord_0 rfl rfl ?_
  obtain ⟨v2, q1⟩ := tm_atI I0 h_o0 (k := 17) rfl
  refine tr_getK q1 d_TrustDeskModel_isWord_1 f_TrustDeskModel_198_13 ?_
  have := tm_rv q1
  refine mv_iconst (v := 3) d_TrustDeskModel_isWord_4 (by decide) ?_
  have := mz_hi v2
  refine mv_icmp_neZ (tgt := 24) (a := v2.toInt) (b := 3) d_TrustDeskModel_isWord_5 (by decide) rfl (by decide) (fun b3 => ?_) (fun b3 => ?_)
  · refine mv_iconst (v := 0) d_TrustDeskModel_isWord_24 (by decide) ?_
    exact mv_iret d_TrustDeskModel_isWord_25 rfl (by decide) ⟨_, I0, _, rfl, by decide, by decide, yR, (fun h => absurd h (by decide)), (fun h => absurd h (by decide)), (fun _ h => by obtain ⟨h1, h2, h3, h4, h5, h6⟩ := h; have := yR.1 15 _ _ rfl; have := yR.1 16 _ _ rfl; have := yR.1 19 _ _ rfl; omega)⟩
  · refine mv_aload_n d_TrustDeskModel_isWord_8 rfl rfl ?_
    obtain ⟨v5, q4⟩ := tm_atI I0 h_o0 (k := 15) rfl
    refine tr_getK q4 d_TrustDeskModel_isWord_9 f_TrustDeskModel_192_13 ?_
    have := yR.f (k := 15) q4 rfl
    have := tm_rv q4
    refine mv_aload_n d_TrustDeskModel_isWord_12 rfl rfl ?_
    obtain ⟨v7, q6⟩ := tm_atI I0 h_o0 (k := 16) rfl
    refine tr_getK q6 d_TrustDeskModel_isWord_13 f_TrustDeskModel_195_13 ?_
    have := yR.f (k := 16) q6 rfl
    have := tm_rv q6
    refine mv_isub d_TrustDeskModel_isWord_16 ?_
    refine mv_aload_n d_TrustDeskModel_isWord_17 rfl rfl ?_
    refine mv_slenK (i := 8) (v := 4) d_TrustDeskModel_isWord_18 lV_TrustDeskModel_214 (by decide) rfl (by decide) (Nat.le_of_ble_eq_true rfl) ?_
    have b8 : (v5 - v7 : Int32).toInt = (v5.toInt - v7.toInt) := mz_sub2 rfl rfl (by have := yR.1 15 _ _ rfl; have := yR.1 16 _ _ rfl; have := yR.1 19 _ _ rfl; omega) (by have := yR.1 15 _ _ rfl; have := yR.1 16 _ _ rfl; have := yR.1 19 _ _ rfl; omega)
    have := mz_hi (v5 - v7)
    refine mv_icmp_eqZ (tgt := 26) (a := (v5 - v7).toInt) (b := 4) d_TrustDeskModel_isWord_21 (by decide) rfl (by decide) (fun b9 => ?_) (fun b9 => ?_)
    · refine mv_iconst (v := 0) d_TrustDeskModel_isWord_26 (by decide) ?_
      refine mv_istore_n (lv' := [(2, .int 0), (0, .ref o0), (1, .ref 18)]) d_TrustDeskModel_isWord_27 rfl (by decide) rfl ?_
      refine mv_iload_n d_TrustDeskModel_isWord_28 rfl rfl ?_
      refine mv_aload_n d_TrustDeskModel_isWord_29 rfl rfl ?_
      refine mv_slenK (i := 8) (v := 4) d_TrustDeskModel_isWord_30 lV_TrustDeskModel_214 (by decide) rfl (by decide) (Nat.le_of_ble_eq_true rfl) ?_
      refine mv_icmp_ge_f (tgt := 63) d_TrustDeskModel_isWord_33 (by decide) (by decide) ?_
      refine mv_aload_n d_TrustDeskModel_isWord_36 rfl rfl ?_
      obtain ⟨a11, q10, t_a11⟩ := tm_atR I0 h_o0 (k := 13) rfl
      refine tr_getK q10 d_TrustDeskModel_isWord_37 f_TrustDeskModel_44_13 ?_
      refine mv_aload_n d_TrustDeskModel_isWord_40 rfl rfl ?_
      refine tr_getK (k := 16) q6 d_TrustDeskModel_isWord_41 f_TrustDeskModel_195_13 ?_
      refine mv_iload_n d_TrustDeskModel_isWord_44 rfl rfl ?_
      refine mv_iadd d_TrustDeskModel_isWord_45 ?_
      have b12 : (v7 + 0 : Int32).toInt = (v7.toInt + 0) := mz_add2 rfl (by decide) (by have := yR.1 15 _ _ rfl; have := yR.1 16 _ _ rfl; have := yR.1 19 _ _ rfl; omega) (by have := yR.1 15 _ _ rfl; have := yR.1 16 _ _ rfl; have := yR.1 19 _ _ rfl; omega)
      refine tr_baldR (o := o0) (k := 13) I0 q10 t_a11 (by decide) d_TrustDeskModel_isWord_46 (vp_in_iff.mpr (by have := yR.1 15 _ _ rfl; have := yR.1 16 _ _ rfl; have := yR.1 19 _ _ rfl; omega)) (fun v13 e14 => ?_)
      have := yR.a (k := 13) rfl ((v7 + 0) : Int32).toNatClampNeg
      have h15 : (v7 + 0).toNatClampNeg = (rv M0 o0 16).toNat + 0 := by have := mz_nat9 (i := (v7 + 0)) (by have := yR.1 15 _ _ rfl; have := yR.1 16 _ _ rfl; have := yR.1 19 _ _ rfl; omega); have := yR.1 15 _ _ rfl; have := yR.1 16 _ _ rfl; have := yR.1 19 _ _ rfl; omega
      have : v13.toInt = ra M0 o0 13 ((rv M0 o0 16).toNat + 0) := by rw [e14, h15]
      refine mv_aload_n d_TrustDeskModel_isWord_47 rfl rfl ?_
      refine mv_iload_n d_TrustDeskModel_isWord_48 rfl rfl ?_
      refine mv_schC (i := 8) (v := 103) d_TrustDeskModel_isWord_49 lV_TrustDeskModel_220 (by decide) rfl (by decide) (by decide) (Nat.le_of_ble_eq_true rfl) (by decide) ?_
      have := mz_hi v13
      refine mv_icmp_eqZ (tgt := 57) (a := v13.toInt) (b := 103) d_TrustDeskModel_isWord_52 (by decide) rfl (by decide) (fun b16 => ?_) (fun b16 => ?_)
      · refine mv_iinc (v := 1) (lv' := [(2, .int 1), (0, .ref o0), (1, .ref 18)]) d_TrustDeskModel_isWord_57 rfl (by decide) (by decide) rfl ?_
        refine mv_goto (tgt := 28) d_TrustDeskModel_isWord_60 (by decide) ?_
        refine mv_iload_n d_TrustDeskModel_isWord_28 rfl rfl ?_
        refine mv_aload_n d_TrustDeskModel_isWord_29 rfl rfl ?_
        refine mv_slenK (i := 8) (v := 4) d_TrustDeskModel_isWord_30 lV_TrustDeskModel_214 (by decide) rfl (by decide) (Nat.le_of_ble_eq_true rfl) ?_
        refine mv_icmp_ge_f (tgt := 63) d_TrustDeskModel_isWord_33 (by decide) (by decide) ?_
        refine mv_aload_n d_TrustDeskModel_isWord_36 rfl rfl ?_
        refine tr_getK (k := 13) q10 d_TrustDeskModel_isWord_37 f_TrustDeskModel_44_13 ?_
        refine mv_aload_n d_TrustDeskModel_isWord_40 rfl rfl ?_
        refine tr_getK (k := 16) q6 d_TrustDeskModel_isWord_41 f_TrustDeskModel_195_13 ?_
        refine mv_iload_n d_TrustDeskModel_isWord_44 rfl rfl ?_
        refine mv_iadd d_TrustDeskModel_isWord_45 ?_
        have b17 : (v7 + 1 : Int32).toInt = (v7.toInt + 1) := mz_add2 rfl (by decide) (by have := yR.1 15 _ _ rfl; have := yR.1 16 _ _ rfl; have := yR.1 19 _ _ rfl; omega) (by have := yR.1 15 _ _ rfl; have := yR.1 16 _ _ rfl; have := yR.1 19 _ _ rfl; omega)
        refine tr_baldR (o := o0) (k := 13) I0 q10 t_a11 (by decide) d_TrustDeskModel_isWord_46 (vp_in_iff.mpr (by have := yR.1 15 _ _ rfl; have := yR.1 16 _ _ rfl; have := yR.1 19 _ _ rfl; omega)) (fun v18 e19 => ?_)
        have := yR.a (k := 13) rfl ((v7 + 1) : Int32).toNatClampNeg
        have h20 : (v7 + 1).toNatClampNeg = (rv M0 o0 16).toNat + 1 := by have := mz_nat9 (i := (v7 + 1)) (by have := yR.1 15 _ _ rfl; have := yR.1 16 _ _ rfl; have := yR.1 19 _ _ rfl; omega); have := yR.1 15 _ _ rfl; have := yR.1 16 _ _ rfl; have := yR.1 19 _ _ rfl; omega
        have : v18.toInt = ra M0 o0 13 ((rv M0 o0 16).toNat + 1) := by rw [e19, h20]
        refine mv_aload_n d_TrustDeskModel_isWord_47 rfl rfl ?_
        refine mv_iload_n d_TrustDeskModel_isWord_48 rfl rfl ?_
        refine mv_schC (i := 8) (v := 97) d_TrustDeskModel_isWord_49 lV_TrustDeskModel_220 (by decide) rfl (by decide) (by decide) (Nat.le_of_ble_eq_true rfl) (by decide) ?_
        have := mz_hi v18
        refine mv_icmp_eqZ (tgt := 57) (a := v18.toInt) (b := 97) d_TrustDeskModel_isWord_52 (by decide) rfl (by decide) (fun b21 => ?_) (fun b21 => ?_)
        · refine mv_iinc (v := 2) (lv' := [(2, .int 2), (0, .ref o0), (1, .ref 18)]) d_TrustDeskModel_isWord_57 rfl (by decide) (by decide) rfl ?_
          refine mv_goto (tgt := 28) d_TrustDeskModel_isWord_60 (by decide) ?_
          refine mv_iload_n d_TrustDeskModel_isWord_28 rfl rfl ?_
          refine mv_aload_n d_TrustDeskModel_isWord_29 rfl rfl ?_
          refine mv_slenK (i := 8) (v := 4) d_TrustDeskModel_isWord_30 lV_TrustDeskModel_214 (by decide) rfl (by decide) (Nat.le_of_ble_eq_true rfl) ?_
          refine mv_icmp_ge_f (tgt := 63) d_TrustDeskModel_isWord_33 (by decide) (by decide) ?_
          refine mv_aload_n d_TrustDeskModel_isWord_36 rfl rfl ?_
          refine tr_getK (k := 13) q10 d_TrustDeskModel_isWord_37 f_TrustDeskModel_44_13 ?_
          refine mv_aload_n d_TrustDeskModel_isWord_40 rfl rfl ?_
          refine tr_getK (k := 16) q6 d_TrustDeskModel_isWord_41 f_TrustDeskModel_195_13 ?_
          refine mv_iload_n d_TrustDeskModel_isWord_44 rfl rfl ?_
          refine mv_iadd d_TrustDeskModel_isWord_45 ?_
          have b22 : (v7 + 2 : Int32).toInt = (v7.toInt + 2) := mz_add2 rfl (by decide) (by have := yR.1 15 _ _ rfl; have := yR.1 16 _ _ rfl; have := yR.1 19 _ _ rfl; omega) (by have := yR.1 15 _ _ rfl; have := yR.1 16 _ _ rfl; have := yR.1 19 _ _ rfl; omega)
          refine tr_baldR (o := o0) (k := 13) I0 q10 t_a11 (by decide) d_TrustDeskModel_isWord_46 (vp_in_iff.mpr (by have := yR.1 15 _ _ rfl; have := yR.1 16 _ _ rfl; have := yR.1 19 _ _ rfl; omega)) (fun v23 e24 => ?_)
          have := yR.a (k := 13) rfl ((v7 + 2) : Int32).toNatClampNeg
          have h25 : (v7 + 2).toNatClampNeg = (rv M0 o0 16).toNat + 2 := by have := mz_nat9 (i := (v7 + 2)) (by have := yR.1 15 _ _ rfl; have := yR.1 16 _ _ rfl; have := yR.1 19 _ _ rfl; omega); have := yR.1 15 _ _ rfl; have := yR.1 16 _ _ rfl; have := yR.1 19 _ _ rfl; omega
          have : v23.toInt = ra M0 o0 13 ((rv M0 o0 16).toNat + 2) := by rw [e24, h25]
          refine mv_aload_n d_TrustDeskModel_isWord_47 rfl rfl ?_
          refine mv_iload_n d_TrustDeskModel_isWord_48 rfl rfl ?_
          refine mv_schC (i := 8) (v := 105) d_TrustDeskModel_isWord_49 lV_TrustDeskModel_220 (by decide) rfl (by decide) (by decide) (Nat.le_of_ble_eq_true rfl) (by decide) ?_
          have := mz_hi v23
          refine mv_icmp_eqZ (tgt := 57) (a := v23.toInt) (b := 105) d_TrustDeskModel_isWord_52 (by decide) rfl (by decide) (fun b26 => ?_) (fun b26 => ?_)
          · refine mv_iinc (v := 3) (lv' := [(2, .int 3), (0, .ref o0), (1, .ref 18)]) d_TrustDeskModel_isWord_57 rfl (by decide) (by decide) rfl ?_
            refine mv_goto (tgt := 28) d_TrustDeskModel_isWord_60 (by decide) ?_
            refine mv_iload_n d_TrustDeskModel_isWord_28 rfl rfl ?_
            refine mv_aload_n d_TrustDeskModel_isWord_29 rfl rfl ?_
            refine mv_slenK (i := 8) (v := 4) d_TrustDeskModel_isWord_30 lV_TrustDeskModel_214 (by decide) rfl (by decide) (Nat.le_of_ble_eq_true rfl) ?_
            refine mv_icmp_ge_f (tgt := 63) d_TrustDeskModel_isWord_33 (by decide) (by decide) ?_
            refine mv_aload_n d_TrustDeskModel_isWord_36 rfl rfl ?_
            refine tr_getK (k := 13) q10 d_TrustDeskModel_isWord_37 f_TrustDeskModel_44_13 ?_
            refine mv_aload_n d_TrustDeskModel_isWord_40 rfl rfl ?_
            refine tr_getK (k := 16) q6 d_TrustDeskModel_isWord_41 f_TrustDeskModel_195_13 ?_
            refine mv_iload_n d_TrustDeskModel_isWord_44 rfl rfl ?_
            refine mv_iadd d_TrustDeskModel_isWord_45 ?_
            have b27 : (v7 + 3 : Int32).toInt = (v7.toInt + 3) := mz_add2 rfl (by decide) (by have := yR.1 15 _ _ rfl; have := yR.1 16 _ _ rfl; have := yR.1 19 _ _ rfl; omega) (by have := yR.1 15 _ _ rfl; have := yR.1 16 _ _ rfl; have := yR.1 19 _ _ rfl; omega)
            refine tr_baldR (o := o0) (k := 13) I0 q10 t_a11 (by decide) d_TrustDeskModel_isWord_46 (vp_in_iff.mpr (by have := yR.1 15 _ _ rfl; have := yR.1 16 _ _ rfl; have := yR.1 19 _ _ rfl; omega)) (fun v28 e29 => ?_)
            have := yR.a (k := 13) rfl ((v7 + 3) : Int32).toNatClampNeg
            have h30 : (v7 + 3).toNatClampNeg = (rv M0 o0 16).toNat + 3 := by have := mz_nat9 (i := (v7 + 3)) (by have := yR.1 15 _ _ rfl; have := yR.1 16 _ _ rfl; have := yR.1 19 _ _ rfl; omega); have := yR.1 15 _ _ rfl; have := yR.1 16 _ _ rfl; have := yR.1 19 _ _ rfl; omega
            have : v28.toInt = ra M0 o0 13 ((rv M0 o0 16).toNat + 3) := by rw [e29, h30]
            refine mv_aload_n d_TrustDeskModel_isWord_47 rfl rfl ?_
            refine mv_iload_n d_TrustDeskModel_isWord_48 rfl rfl ?_
            refine mv_schC (i := 8) (v := 110) d_TrustDeskModel_isWord_49 lV_TrustDeskModel_220 (by decide) rfl (by decide) (by decide) (Nat.le_of_ble_eq_true rfl) (by decide) ?_
            have := mz_hi v28
            refine mv_icmp_eqZ (tgt := 57) (a := v28.toInt) (b := 110) d_TrustDeskModel_isWord_52 (by decide) rfl (by decide) (fun b31 => ?_) (fun b31 => ?_)
            · refine mv_iinc (v := 4) (lv' := [(2, .int 4), (0, .ref o0), (1, .ref 18)]) d_TrustDeskModel_isWord_57 rfl (by decide) (by decide) rfl ?_
              refine mv_goto (tgt := 28) d_TrustDeskModel_isWord_60 (by decide) ?_
              refine mv_iload_n d_TrustDeskModel_isWord_28 rfl rfl ?_
              refine mv_aload_n d_TrustDeskModel_isWord_29 rfl rfl ?_
              refine mv_slenK (i := 8) (v := 4) d_TrustDeskModel_isWord_30 lV_TrustDeskModel_214 (by decide) rfl (by decide) (Nat.le_of_ble_eq_true rfl) ?_
              refine mv_icmp_ge_t (tgt := 63) d_TrustDeskModel_isWord_33 (by decide) (by decide) ?_
              refine mv_iconst (v := 1) d_TrustDeskModel_isWord_63 (by decide) ?_
              exact mv_iret d_TrustDeskModel_isWord_64 rfl (by decide) ⟨_, I0, _, rfl, by decide, by decide, yR, (fun _ => by have := yR.1 15 _ _ rfl; have := yR.1 16 _ _ rfl; have := yR.1 19 _ _ rfl; omega), (fun _ => ⟨by have := yR.1 15 _ _ rfl; have := yR.1 16 _ _ rfl; have := yR.1 19 _ _ rfl; omega, by have := yR.1 15 _ _ rfl; have := yR.1 16 _ _ rfl; have := yR.1 19 _ _ rfl; omega, by have := yR.1 15 _ _ rfl; have := yR.1 16 _ _ rfl; have := yR.1 19 _ _ rfl; omega, by have := yR.1 15 _ _ rfl; have := yR.1 16 _ _ rfl; have := yR.1 19 _ _ rfl; omega, by have := yR.1 15 _ _ rfl; have := yR.1 16 _ _ rfl; have := yR.1 19 _ _ rfl; omega, by have := yR.1 15 _ _ rfl; have := yR.1 16 _ _ rfl; have := yR.1 19 _ _ rfl; omega⟩), (fun h => absurd h (by decide))⟩
            · refine mv_iconst (v := 0) d_TrustDeskModel_isWord_55 (by decide) ?_
              exact mv_iret d_TrustDeskModel_isWord_56 rfl (by decide) ⟨_, I0, _, rfl, by decide, by decide, yR, (fun h => absurd h (by decide)), (fun h => absurd h (by decide)), (fun _ h => by obtain ⟨h1, h2, h3, h4, h5, h6⟩ := h; have := yR.1 15 _ _ rfl; have := yR.1 16 _ _ rfl; have := yR.1 19 _ _ rfl; omega)⟩
          · refine mv_iconst (v := 0) d_TrustDeskModel_isWord_55 (by decide) ?_
            exact mv_iret d_TrustDeskModel_isWord_56 rfl (by decide) ⟨_, I0, _, rfl, by decide, by decide, yR, (fun h => absurd h (by decide)), (fun h => absurd h (by decide)), (fun _ h => by obtain ⟨h1, h2, h3, h4, h5, h6⟩ := h; have := yR.1 15 _ _ rfl; have := yR.1 16 _ _ rfl; have := yR.1 19 _ _ rfl; omega)⟩
        · refine mv_iconst (v := 0) d_TrustDeskModel_isWord_55 (by decide) ?_
          exact mv_iret d_TrustDeskModel_isWord_56 rfl (by decide) ⟨_, I0, _, rfl, by decide, by decide, yR, (fun h => absurd h (by decide)), (fun h => absurd h (by decide)), (fun _ h => by obtain ⟨h1, h2, h3, h4, h5, h6⟩ := h; have := yR.1 15 _ _ rfl; have := yR.1 16 _ _ rfl; have := yR.1 19 _ _ rfl; omega)⟩
      · refine mv_iconst (v := 0) d_TrustDeskModel_isWord_55 (by decide) ?_
        exact mv_iret d_TrustDeskModel_isWord_56 rfl (by decide) ⟨_, I0, _, rfl, by decide, by decide, yR, (fun h => absurd h (by decide)), (fun h => absurd h (by decide)), (fun _ h => by obtain ⟨h1, h2, h3, h4, h5, h6⟩ := h; have := yR.1 15 _ _ rfl; have := yR.1 16 _ _ rfl; have := yR.1 19 _ _ rfl; omega)⟩
    · refine mv_iconst (v := 0) d_TrustDeskModel_isWord_24 (by decide) ?_
      exact mv_iret d_TrustDeskModel_isWord_25 rfl (by decide) ⟨_, I0, _, rfl, by decide, by decide, yR, (fun h => absurd h (by decide)), (fun h => absurd h (by decide)), (fun _ h => by obtain ⟨h1, h2, h3, h4, h5, h6⟩ := h; have := yR.1 15 _ _ rfl; have := yR.1 16 _ _ rfl; have := yR.1 19 _ _ rfl; omega)⟩
theorem d_TrustDeskModel_ruleWord_63 : decode kY_TrustDeskModel_ruleWord.2.1 63 = .ok (.ifCond .eq 7, 3) := by decide +kernel
theorem d_TrustDeskModel_ruleWord_70 : decode kY_TrustDeskModel_ruleWord.2.1 70 = .ok (.aload_n 0, 1) := by decide +kernel
theorem d_TrustDeskModel_ruleWord_71 : decode kY_TrustDeskModel_ruleWord.2.1 71 = .ok (.ldc_w 361, 3) := by decide +kernel
theorem d_TrustDeskModel_ruleWord_74 : decode kY_TrustDeskModel_ruleWord.2.1 74 = .ok (.invokevirtual 244, 3) := by decide +kernel
def w_TrustDeskModel_isWord_s1_19_x : List Nat := []
set_option maxHeartbeats 100000000 in theorem tc_TrustDeskModel_isWord_s1_19_x {g : mj_G} {l : Launch} {d : Nat} {T0 : tm_H} {M0 : mj_M} {n0 x9 : Nat} {o0 : Nat} (h_o0 : T0 o0 = some (0, 13, 0)) (yR : rI M0 o0) (I0 : tm_I tm_FT (tm_in w_TrustDeskModel_isWord_s1_19_x) x9 T0 M0 n0 T0 M0 n0) : mj_Met g l kY_TrustDeskModel_isWord (d + 4) [.ref o0, .ref 19] M0 n0 0 0 (tm_Q tm_FT (tm_in w_TrustDeskModel_isWord_s1_19_x) x9 T0 M0 n0 (fun r _ M => ∃ v : Int32, r = some (.int v) ∧ 0 ≤ v.toInt ∧ v.toInt ≤ 1 ∧ rI M o0 ∧ (v.toInt = 1 → rv M0 o0 17 = 3) ∧ (v.toInt = 1 → rv M0 o0 17 = 3 ∧ rv M0 o0 15 - rv M0 o0 16 = 4 ∧ ra M0 o0 13 ((rv M0 o0 16).toNat + 0) = 115 ∧ ra M0 o0 13 ((rv M0 o0 16).toNat + 1) = 101 ∧ ra M0 o0 13 ((rv M0 o0 16).toNat + 2) = 108 ∧ ra M0 o0 13 ((rv M0 o0 16).toNat + 3) = 108) ∧ (v.toInt = 0 → ¬ (rv M0 o0 17 = 3 ∧ rv M0 o0 15 - rv M0 o0 16 = 4 ∧ ra M0 o0 13 ((rv M0 o0 16).toNat + 0) = 115 ∧ ra M0 o0 13 ((rv M0 o0 16).toNat + 1) = 101 ∧ ra M0 o0 13 ((rv M0 o0 16).toNat + 2) = 108 ∧ ra M0 o0 13 ((rv M0 o0 16).toNat + 3) = 108)))) := by
  refine mj_enter (by decide) (Nat.le_of_ble_eq_true rfl) ?_
  refine mv_aload_n d_TrustDeskModel_isWord_0 rfl rfl ?_
  obtain ⟨v2, q1⟩ := tm_atI I0 h_o0 (k := 17) rfl
  refine tr_getK q1 d_TrustDeskModel_isWord_1 f_TrustDeskModel_198_13 ?_
  have := tm_rv q1
  refine mv_iconst (v := 3) d_TrustDeskModel_isWord_4 (by decide) ?_
  have := mz_hi v2
  refine mv_icmp_neZ (tgt := 24) (a := v2.toInt) (b := 3) d_TrustDeskModel_isWord_5 (by decide) rfl (by decide) (fun b3 => ?_) (fun b3 => ?_)
  · refine mv_iconst (v := 0) d_TrustDeskModel_isWord_24 (by decide) ?_
    exact mv_iret d_TrustDeskModel_isWord_25 rfl (by decide) ⟨_, I0, _, rfl, by decide, by decide, yR, (fun h => absurd h (by decide)), (fun h => absurd h (by decide)), (fun _ h => by obtain ⟨h1, h2, h3, h4, h5, h6⟩ := h; have := yR.1 15 _ _ rfl; have := yR.1 16 _ _ rfl; have := yR.1 19 _ _ rfl; omega)⟩
  · refine mv_aload_n d_TrustDeskModel_isWord_8 rfl rfl ?_
    obtain ⟨v5, q4⟩ := tm_atI I0 h_o0 (k := 15) rfl
    refine tr_getK q4 d_TrustDeskModel_isWord_9 f_TrustDeskModel_192_13 ?_
    have := yR.f (k := 15) q4 rfl
    have := tm_rv q4
    refine mv_aload_n d_TrustDeskModel_isWord_12 rfl rfl ?_
    obtain ⟨v7, q6⟩ := tm_atI I0 h_o0 (k := 16) rfl
    refine tr_getK q6 d_TrustDeskModel_isWord_13 f_TrustDeskModel_195_13 ?_
    have := yR.f (k := 16) q6 rfl
    have := tm_rv q6
    refine mv_isub d_TrustDeskModel_isWord_16 ?_
    refine mv_aload_n d_TrustDeskModel_isWord_17 rfl rfl ?_
    refine mv_slenK (i := 9) (v := 4) d_TrustDeskModel_isWord_18 lV_TrustDeskModel_214 (by decide) rfl (by decide) (Nat.le_of_ble_eq_true rfl) ?_
    have b8 : (v5 - v7 : Int32).toInt = (v5.toInt - v7.toInt) := mz_sub2 rfl rfl (by have := yR.1 15 _ _ rfl; have := yR.1 16 _ _ rfl; have := yR.1 19 _ _ rfl; omega) (by have := yR.1 15 _ _ rfl; have := yR.1 16 _ _ rfl; have := yR.1 19 _ _ rfl; omega)
    have := mz_hi (v5 - v7)
    refine mv_icmp_eqZ (tgt := 26) (a := (v5 - v7).toInt) (b := 4) d_TrustDeskModel_isWord_21 (by decide) rfl (by decide) (fun b9 => ?_) (fun b9 => ?_)
    · refine mv_iconst (v := 0) d_TrustDeskModel_isWord_26 (by decide) ?_
      refine mv_istore_n (lv' := [(2, .int 0), (0, .ref o0), (1, .ref 19)]) d_TrustDeskModel_isWord_27 rfl (by decide) rfl ?_
      refine mv_iload_n d_TrustDeskModel_isWord_28 rfl rfl ?_
      refine mv_aload_n d_TrustDeskModel_isWord_29 rfl rfl ?_
      refine mv_slenK (i := 9) (v := 4) d_TrustDeskModel_isWord_30 lV_TrustDeskModel_214 (by decide) rfl (by decide) (Nat.le_of_ble_eq_true rfl) ?_
      refine mv_icmp_ge_f (tgt := 63) d_TrustDeskModel_isWord_33 (by decide) (by decide) ?_
      refine mv_aload_n d_TrustDeskModel_isWord_36 rfl rfl ?_
      obtain ⟨a11, q10, t_a11⟩ := tm_atR I0 h_o0 (k := 13) rfl
      refine tr_getK q10 d_TrustDeskModel_isWord_37 f_TrustDeskModel_44_13 ?_
      refine mv_aload_n d_TrustDeskModel_isWord_40 rfl rfl ?_
      refine tr_getK (k := 16) q6 d_TrustDeskModel_isWord_41 f_TrustDeskModel_195_13 ?_
      refine mv_iload_n d_TrustDeskModel_isWord_44 rfl rfl ?_
      refine mv_iadd d_TrustDeskModel_isWord_45 ?_
      have b12 : (v7 + 0 : Int32).toInt = (v7.toInt + 0) := mz_add2 rfl (by decide) (by have := yR.1 15 _ _ rfl; have := yR.1 16 _ _ rfl; have := yR.1 19 _ _ rfl; omega) (by have := yR.1 15 _ _ rfl; have := yR.1 16 _ _ rfl; have := yR.1 19 _ _ rfl; omega)
      refine tr_baldR (o := o0) (k := 13) I0 q10 t_a11 (by decide) d_TrustDeskModel_isWord_46 (vp_in_iff.mpr (by have := yR.1 15 _ _ rfl; have := yR.1 16 _ _ rfl; have := yR.1 19 _ _ rfl; omega)) (fun v13 e14 => ?_)
      have := yR.a (k := 13) rfl ((v7 + 0) : Int32).toNatClampNeg
      have h15 : (v7 + 0).toNatClampNeg = (rv M0 o0 16).toNat + 0 := by have := mz_nat9 (i := (v7 + 0)) (by have := yR.1 15 _ _ rfl; have := yR.1 16 _ _ rfl; have := yR.1 19 _ _ rfl; omega); have := yR.1 15 _ _ rfl; have := yR.1 16 _ _ rfl; have := yR.1 19 _ _ rfl; omega
      have : v13.toInt = ra M0 o0 13 ((rv M0 o0 16).toNat + 0) := by rw [e14, h15]
      refine mv_aload_n d_TrustDeskModel_isWord_47 rfl rfl ?_
      refine mv_iload_n d_TrustDeskModel_isWord_48 rfl rfl ?_
      refine mv_schC (i := 9) (v := 115) d_TrustDeskModel_isWord_49 lV_TrustDeskModel_220 (by decide) rfl (by decide) (by decide) (Nat.le_of_ble_eq_true rfl) (by decide) ?_
      have := mz_hi v13
      refine mv_icmp_eqZ (tgt := 57) (a := v13.toInt) (b := 115) d_TrustDeskModel_isWord_52 (by decide) rfl (by decide) (fun b16 => ?_) (fun b16 => ?_)
      · refine mv_iinc (v := 1) (lv' := [(2, .int 1), (0, .ref o0), (1, .ref 19)]) d_TrustDeskModel_isWord_57 rfl (by decide) (by decide) rfl ?_
        refine mv_goto (tgt := 28) d_TrustDeskModel_isWord_60 (by decide) ?_
        refine mv_iload_n d_TrustDeskModel_isWord_28 rfl rfl ?_
        refine mv_aload_n d_TrustDeskModel_isWord_29 rfl rfl ?_
        refine mv_slenK (i := 9) (v := 4) d_TrustDeskModel_isWord_30 lV_TrustDeskModel_214 (by decide) rfl (by decide) (Nat.le_of_ble_eq_true rfl) ?_
        refine mv_icmp_ge_f (tgt := 63) d_TrustDeskModel_isWord_33 (by decide) (by decide) ?_
        refine mv_aload_n d_TrustDeskModel_isWord_36 rfl rfl ?_
        refine tr_getK (k := 13) q10 d_TrustDeskModel_isWord_37 f_TrustDeskModel_44_13 ?_
        refine mv_aload_n d_TrustDeskModel_isWord_40 rfl rfl ?_
        refine tr_getK (k := 16) q6 d_TrustDeskModel_isWord_41 f_TrustDeskModel_195_13 ?_
        refine mv_iload_n d_TrustDeskModel_isWord_44 rfl rfl ?_
        refine mv_iadd d_TrustDeskModel_isWord_45 ?_
        have b17 : (v7 + 1 : Int32).toInt = (v7.toInt + 1) := mz_add2 rfl (by decide) (by have := yR.1 15 _ _ rfl; have := yR.1 16 _ _ rfl; have := yR.1 19 _ _ rfl; omega) (by have := yR.1 15 _ _ rfl; have := yR.1 16 _ _ rfl; have := yR.1 19 _ _ rfl; omega)
        refine tr_baldR (o := o0) (k := 13) I0 q10 t_a11 (by decide) d_TrustDeskModel_isWord_46 (vp_in_iff.mpr (by have := yR.1 15 _ _ rfl; have := yR.1 16 _ _ rfl; have := yR.1 19 _ _ rfl; omega)) (fun v18 e19 => ?_)
        have := yR.a (k := 13) rfl ((v7 + 1) : Int32).toNatClampNeg
        have h20 : (v7 + 1).toNatClampNeg = (rv M0 o0 16).toNat + 1 := by have := mz_nat9 (i := (v7 + 1)) (by have := yR.1 15 _ _ rfl; have := yR.1 16 _ _ rfl; have := yR.1 19 _ _ rfl; omega); have := yR.1 15 _ _ rfl; have := yR.1 16 _ _ rfl; have := yR.1 19 _ _ rfl; omega
        have : v18.toInt = ra M0 o0 13 ((rv M0 o0 16).toNat + 1) := by rw [e19, h20]
        refine mv_aload_n d_TrustDeskModel_isWord_47 rfl rfl ?_
        refine mv_iload_n d_TrustDeskModel_isWord_48 rfl rfl ?_
        refine mv_schC (i := 9) (v := 101) d_TrustDeskModel_isWord_49 lV_TrustDeskModel_220 (by decide) rfl (by decide) (by decide) (Nat.le_of_ble_eq_true rfl) (by decide) ?_
        have := mz_hi v18
        refine mv_icmp_eqZ (tgt := 57) (a := v18.toInt) (b := 101) d_TrustDeskModel_isWord_52 (by decide) rfl (by decide) (fun b21 => ?_) (fun b21 => ?_)
        · refine mv_iinc (v := 2) (lv' := [(2, .int 2), (0, .ref o0), (1, .ref 19)]) d_TrustDeskModel_isWord_57 rfl (by decide) (by decide) rfl ?_
          refine mv_goto (tgt := 28) d_TrustDeskModel_isWord_60 (by decide) ?_
          refine mv_iload_n d_TrustDeskModel_isWord_28 rfl rfl ?_
          refine mv_aload_n d_TrustDeskModel_isWord_29 rfl rfl ?_
          refine mv_slenK (i := 9) (v := 4) d_TrustDeskModel_isWord_30 lV_TrustDeskModel_214 (by decide) rfl (by decide) (Nat.le_of_ble_eq_true rfl) ?_
          refine mv_icmp_ge_f (tgt := 63) d_TrustDeskModel_isWord_33 (by decide) (by decide) ?_
          refine mv_aload_n d_TrustDeskModel_isWord_36 rfl rfl ?_
          refine tr_getK (k := 13) q10 d_TrustDeskModel_isWord_37 f_TrustDeskModel_44_13 ?_
          refine mv_aload_n d_TrustDeskModel_isWord_40 rfl rfl ?_
          refine tr_getK (k := 16) q6 d_TrustDeskModel_isWord_41 f_TrustDeskModel_195_13 ?_
          refine mv_iload_n d_TrustDeskModel_isWord_44 rfl rfl ?_
          refine mv_iadd d_TrustDeskModel_isWord_45 ?_
          have b22 : (v7 + 2 : Int32).toInt = (v7.toInt + 2) := mz_add2 rfl (by decide) (by have := yR.1 15 _ _ rfl; have := yR.1 16 _ _ rfl; have := yR.1 19 _ _ rfl; omega) (by have := yR.1 15 _ _ rfl; have := yR.1 16 _ _ rfl; have := yR.1 19 _ _ rfl; omega)
          refine tr_baldR (o := o0) (k := 13) I0 q10 t_a11 (by decide) d_TrustDeskModel_isWord_46 (vp_in_iff.mpr (by have := yR.1 15 _ _ rfl; have := yR.1 16 _ _ rfl; have := yR.1 19 _ _ rfl; omega)) (fun v23 e24 => ?_)
          have := yR.a (k := 13) rfl ((v7 + 2) : Int32).toNatClampNeg
          have h25 : (v7 + 2).toNatClampNeg = (rv M0 o0 16).toNat + 2 := by have := mz_nat9 (i := (v7 + 2)) (by have := yR.1 15 _ _ rfl; have := yR.1 16 _ _ rfl; have := yR.1 19 _ _ rfl; omega); have := yR.1 15 _ _ rfl; have := yR.1 16 _ _ rfl; have := yR.1 19 _ _ rfl; omega
          have : v23.toInt = ra M0 o0 13 ((rv M0 o0 16).toNat + 2) := by rw [e24, h25]
          refine mv_aload_n d_TrustDeskModel_isWord_47 rfl rfl ?_
          refine mv_iload_n d_TrustDeskModel_isWord_48 rfl rfl ?_
          refine mv_schC (i := 9) (v := 108) d_TrustDeskModel_isWord_49 lV_TrustDeskModel_220 (by decide) rfl (by decide) (by decide) (Nat.le_of_ble_eq_true rfl) (by decide) ?_
          have := mz_hi v23
          refine mv_icmp_eqZ (tgt := 57) (a := v23.toInt) (b := 108) d_TrustDeskModel_isWord_52 (by decide) rfl (by decide) (fun b26 => ?_) (fun b26 => ?_)
          · refine mv_iinc (v := 3) (lv' := [(2, .int 3), (0, .ref o0), (1, .ref 19)]) d_TrustDeskModel_isWord_57 rfl (by decide) (by decide) rfl ?_
            refine mv_goto (tgt := 28) d_TrustDeskModel_isWord_60 (by decide) ?_
            refine mv_iload_n d_TrustDeskModel_isWord_28 rfl rfl ?_
            refine mv_aload_n d_TrustDeskModel_isWord_29 rfl rfl ?_
            refine mv_slenK (i := 9) (v := 4) d_TrustDeskModel_isWord_30 lV_TrustDeskModel_214 (by decide) rfl (by decide) (Nat.le_of_ble_eq_true rfl) ?_
            refine mv_icmp_ge_f (tgt := 63) d_TrustDeskModel_isWord_33 (by decide) (by decide) ?_
            refine mv_aload_n d_TrustDeskModel_isWord_36 rfl rfl ?_
            refine tr_getK (k := 13) q10 d_TrustDeskModel_isWord_37 f_TrustDeskModel_44_13 ?_
            refine mv_aload_n d_TrustDeskModel_isWord_40 rfl rfl ?_
            refine tr_getK (k := 16) q6 d_TrustDeskModel_isWord_41 f_TrustDeskModel_195_13 ?_
            refine mv_iload_n d_TrustDeskModel_isWord_44 rfl rfl ?_
            refine mv_iadd d_TrustDeskModel_isWord_45 ?_
            have b27 : (v7 + 3 : Int32).toInt = (v7.toInt + 3) := mz_add2 rfl (by decide) (by have := yR.1 15 _ _ rfl; have := yR.1 16 _ _ rfl; have := yR.1 19 _ _ rfl; omega) (by have := yR.1 15 _ _ rfl; have := yR.1 16 _ _ rfl; have := yR.1 19 _ _ rfl; omega)
            refine tr_baldR (o := o0) (k := 13) I0 q10 t_a11 (by decide) d_TrustDeskModel_isWord_46 (vp_in_iff.mpr (by have := yR.1 15 _ _ rfl; have := yR.1 16 _ _ rfl; have := yR.1 19 _ _ rfl; omega)) (fun v28 e29 => ?_)
            have := yR.a (k := 13) rfl ((v7 + 3) : Int32).toNatClampNeg
            have h30 : (v7 + 3).toNatClampNeg = (rv M0 o0 16).toNat + 3 := by have := mz_nat9 (i := (v7 + 3)) (by have := yR.1 15 _ _ rfl; have := yR.1 16 _ _ rfl; have := yR.1 19 _ _ rfl; omega); have := yR.1 15 _ _ rfl; have := yR.1 16 _ _ rfl; have := yR.1 19 _ _ rfl; omega
            have : v28.toInt = ra M0 o0 13 ((rv M0 o0 16).toNat + 3) := by rw [e29, h30]
            refine mv_aload_n d_TrustDeskModel_isWord_47 rfl rfl ?_
            refine mv_iload_n d_TrustDeskModel_isWord_48 rfl rfl ?_
            refine mv_schC (i := 9) (v := 108) d_TrustDeskModel_isWord_49 lV_TrustDeskModel_220 (by decide) rfl (by decide) (by decide) (Nat.le_of_ble_eq_true rfl) (by decide) ?_
            have := mz_hi v28
            refine mv_icmp_eqZ (tgt := 57) (a := v28.toInt) (b := 108) d_TrustDeskModel_isWord_52 (by decide) rfl (by decide) (fun b31 => ?_) (fun b31 => ?_)
            · refine mv_iinc (v := 4) (lv' := [(2, .int 4), (0, .ref o0), (1, .ref 19)]) d_TrustDeskModel_isWord_57 rfl (by decide) (by decide) rfl ?_
              refine mv_goto (tgt := 28) d_TrustDeskModel_isWord_60 (by decide) ?_
              refine mv_iload_n d_TrustDeskModel_isWord_28 rfl rfl ?_
              refine mv_aload_n d_TrustDeskModel_isWord_29 rfl rfl ?_
              refine mv_slenK (i := 9) (v := 4) d_TrustDeskModel_isWord_30 lV_TrustDeskModel_214 (by decide) rfl (by decide) (Nat.le_of_ble_eq_true rfl) ?_
              refine mv_icmp_ge_t (tgt := 63) d_TrustDeskModel_isWord_33 (by decide) (by decide) ?_
              refine mv_iconst (v := 1) d_TrustDeskModel_isWord_63 (by decide) ?_
              exact mv_iret d_TrustDeskModel_isWord_64 rfl (by decide) ⟨_, I0, _, rfl, by decide, by decide, yR, (fun _ => by have := yR.1 15 _ _ rfl; have := yR.1 16 _ _ rfl; have := yR.1 19 _ _ rfl; omega), (fun _ => ⟨by have := yR.1 15 _ _ rfl; have := yR.1 16 _ _ rfl; have := yR.1 19 _ _ rfl; omega, by have := yR.1 15 _ _ rfl; have := yR.1 16 _ _ rfl; have := yR.1 19 _ _ rfl; omega, by have := yR.1 15 _ _ rfl; have := yR.1 16 _ _ rfl; have := yR.1 19 _ _ rfl; omega, by have := yR.1 15 _ _ rfl; have := yR.1 16 _ _ rfl; have := yR.1 19 _ _ rfl; omega, by have := yR.1 15 _ _ rfl; have := yR.1 16 _ _ rfl; have := yR.1 19 _ _ rfl; omega, by have := yR.1 15 _ _ rfl; have := yR.1 16 _ _ rfl; have := yR.1 19 _ _ rfl; omega⟩), (fun h => absurd h (by decide))⟩
            · refine mv_iconst (v := 0) d_TrustDeskModel_isWord_55 (by decide) ?_
              exact mv_iret d_TrustDeskModel_isWord_56 rfl (by decide) ⟨_, I0, _, rfl, by decide, by decide, yR, (fun h => absurd h (by decide)), (fun h => absurd h (by decide)), (fun _ h => by obtain ⟨h1, h2, h3, h4, h5, h6⟩ := h; have := yR.1 15 _ _ rfl; have := yR.1 16 _ _ rfl; have := yR.1 19 _ _ rfl; omega)⟩
          · refine mv_iconst (v := 0) d_TrustDeskModel_isWord_55 (by decide) ?_
            exact mv_iret d_TrustDeskModel_isWord_56 rfl (by decide) ⟨_, I0, _, rfl, by decide, by decide, yR, (fun h => absurd h (by decide)), (fun h => absurd h (by decide)), (fun _ h => by obtain ⟨h1, h2, h3, h4, h5, h6⟩ := h; have := yR.1 15 _ _ rfl; have := yR.1 16 _ _ rfl; have := yR.1 19 _ _ rfl; omega)⟩
        · refine mv_iconst (v := 0) d_TrustDeskModel_isWord_55 (by decide) ?_
          exact mv_iret d_TrustDeskModel_isWord_56 rfl (by decide) ⟨_, I0, _, rfl, by decide, by decide, yR, (fun h => absurd h (by decide)), (fun h => absurd h (by decide)), (fun _ h => by obtain ⟨h1, h2, h3, h4, h5, h6⟩ := h; have := yR.1 15 _ _ rfl; have := yR.1 16 _ _ rfl; have := yR.1 19 _ _ rfl; omega)⟩
      · refine mv_iconst (v := 0) d_TrustDeskModel_isWord_55 (by decide) ?_
        exact mv_iret d_TrustDeskModel_isWord_56 rfl (by decide) ⟨_, I0, _, rfl, by decide, by decide, yR, (fun h => absurd h (by decide)), (fun h => absurd h (by decide)), (fun _ h => by obtain ⟨h1, h2, h3, h4, h5, h6⟩ := h; have := yR.1 15 _ _ rfl; have := yR.1 16 _ _ rfl; have := yR.1 19 _ _ rfl; omega)⟩
    · refine mv_iconst (v := 0) d_TrustDeskModel_isWord_24 (by decide) ?_
      exact mv_iret d_TrustDeskModel_isWord_25 rfl (by decide) ⟨_, I0, _, rfl, by decide, by decide, yR, (fun h => absurd h (by decide)), (fun h => absurd h (by decide)), (fun _ h => by obtain ⟨h1, h2, h3, h4, h5, h6⟩ := h; have := yR.1 15 _ _ rfl; have := yR.1 16 _ _ rfl; have := yR.1 19 _ _ rfl; omega)⟩
theorem d_TrustDeskModel_ruleWord_77 : decode kY_TrustDeskModel_ruleWord.2.1 77 = .ok (.ifCond .eq 7, 3) := by decide +kernel
theorem d_TrustDeskModel_ruleWord_84 : decode kY_TrustDeskModel_ruleWord.2.1 84 = .ok (.aload_n 0, 1) := by decide +kernel
theorem d_TrustDeskModel_ruleWord_85 : decode kY_TrustDeskModel_ruleWord.2.1 85 = .ok (.ldc_w 363, 3) := by decide +kernel
theorem d_TrustDeskModel_ruleWord_88 : decode kY_TrustDeskModel_ruleWord.2.1 88 = .ok (.invokevirtual 244, 3) := by decide +kernel
def w_TrustDeskModel_isWord_s1_20_x : List Nat := []
set_option maxHeartbeats 100000000 in theorem tc_TrustDeskModel_isWord_s1_20_x {g : mj_G} {l : Launch} {d : Nat} {T0 : tm_H} {M0 : mj_M} {n0 x9 : Nat} {o0 : Nat} (h_o0 : T0 o0 = some (0, 13, 0)) (yR : rI M0 o0) (I0 : tm_I tm_FT (tm_in w_TrustDeskModel_isWord_s1_20_x) x9 T0 M0 n0 T0 M0 n0) : mj_Met g l kY_TrustDeskModel_isWord (d + 4) [.ref o0, .ref 20] M0 n0 0 0 (tm_Q tm_FT (tm_in w_TrustDeskModel_isWord_s1_20_x) x9 T0 M0 n0 (fun r _ M => ∃ v : Int32, r = some (.int v) ∧ 0 ≤ v.toInt ∧ v.toInt ≤ 1 ∧ rI M o0 ∧ (v.toInt = 1 → rv M0 o0 17 = 3) ∧ (v.toInt = 1 → rv M0 o0 17 = 3 ∧ rv M0 o0 15 - rv M0 o0 16 = 3 ∧ ra M0 o0 13 ((rv M0 o0 16).toNat + 0) = 98 ∧ ra M0 o0 13 ((rv M0 o0 16).toNat + 1) = 97 ∧ ra M0 o0 13 ((rv M0 o0 16).toNat + 2) = 114) ∧ (v.toInt = 0 → ¬ (rv M0 o0 17 = 3 ∧ rv M0 o0 15 - rv M0 o0 16 = 3 ∧ ra M0 o0 13 ((rv M0 o0 16).toNat + 0) = 98 ∧ ra M0 o0 13 ((rv M0 o0 16).toNat + 1) = 97 ∧ ra M0 o0 13 ((rv M0 o0 16).toNat + 2) = 114)))) := by
  refine mj_enter (by decide) (Nat.le_of_ble_eq_true rfl) ?_
  refine mv_aload_n d_TrustDeskModel_isWord_0 rfl rfl ?_
  obtain ⟨v2, q1⟩ := tm_atI I0 h_o0 (k := 17) rfl
  refine tr_getK q1 d_TrustDeskModel_isWord_1 f_TrustDeskModel_198_13 ?_
  have := tm_rv q1
  refine mv_iconst (v := 3) d_TrustDeskModel_isWord_4 (by decide) ?_
  have := mz_hi v2
  refine mv_icmp_neZ (tgt := 24) (a := v2.toInt) (b := 3) d_TrustDeskModel_isWord_5 (by decide) rfl (by decide) (fun b3 => ?_) (fun b3 => ?_)
  · refine mv_iconst (v := 0) d_TrustDeskModel_isWord_24 (by decide) ?_
    exact mv_iret d_TrustDeskModel_isWord_25 rfl (by decide) ⟨_, I0, _, rfl, by decide, by decide, yR, (fun h => absurd h (by decide)), (fun h => absurd h (by decide)), (fun _ h => by obtain ⟨h1, h2, h3, h4, h5⟩ := h; have := yR.1 15 _ _ rfl; have := yR.1 16 _ _ rfl; have := yR.1 19 _ _ rfl; omega)⟩
  · refine mv_aload_n d_TrustDeskModel_isWord_8 rfl rfl ?_
    obtain ⟨v5, q4⟩ := tm_atI I0 h_o0 (k := 15) rfl
    refine tr_getK q4 d_TrustDeskModel_isWord_9 f_TrustDeskModel_192_13 ?_
    have := yR.f (k := 15) q4 rfl
    have := tm_rv q4
    refine mv_aload_n d_TrustDeskModel_isWord_12 rfl rfl ?_
    obtain ⟨v7, q6⟩ := tm_atI I0 h_o0 (k := 16) rfl
    refine tr_getK q6 d_TrustDeskModel_isWord_13 f_TrustDeskModel_195_13 ?_
    have := yR.f (k := 16) q6 rfl
    have := tm_rv q6
    refine mv_isub d_TrustDeskModel_isWord_16 ?_
    refine mv_aload_n d_TrustDeskModel_isWord_17 rfl rfl ?_
    refine mv_slenK (i := 10) (v := 3) d_TrustDeskModel_isWord_18 lV_TrustDeskModel_214 (by decide) rfl (by decide) (Nat.le_of_ble_eq_true rfl) ?_
    have b8 : (v5 - v7 : Int32).toInt = (v5.toInt - v7.toInt) := mz_sub2 rfl rfl (by have := yR.1 15 _ _ rfl; have := yR.1 16 _ _ rfl; have := yR.1 19 _ _ rfl; omega) (by have := yR.1 15 _ _ rfl; have := yR.1 16 _ _ rfl; have := yR.1 19 _ _ rfl; omega)
    have := mz_hi (v5 - v7)
    refine mv_icmp_eqZ (tgt := 26) (a := (v5 - v7).toInt) (b := 3) d_TrustDeskModel_isWord_21 (by decide) rfl (by decide) (fun b9 => ?_) (fun b9 => ?_)
    · refine mv_iconst (v := 0) d_TrustDeskModel_isWord_26 (by decide) ?_
      refine mv_istore_n (lv' := [(2, .int 0), (0, .ref o0), (1, .ref 20)]) d_TrustDeskModel_isWord_27 rfl (by decide) rfl ?_
      refine mv_iload_n d_TrustDeskModel_isWord_28 rfl rfl ?_
      refine mv_aload_n d_TrustDeskModel_isWord_29 rfl rfl ?_
      refine mv_slenK (i := 10) (v := 3) d_TrustDeskModel_isWord_30 lV_TrustDeskModel_214 (by decide) rfl (by decide) (Nat.le_of_ble_eq_true rfl) ?_
      refine mv_icmp_ge_f (tgt := 63) d_TrustDeskModel_isWord_33 (by decide) (by decide) ?_
      refine mv_aload_n d_TrustDeskModel_isWord_36 rfl rfl ?_
      obtain ⟨a11, q10, t_a11⟩ := tm_atR I0 h_o0 (k := 13) rfl
      refine tr_getK q10 d_TrustDeskModel_isWord_37 f_TrustDeskModel_44_13 ?_
      refine mv_aload_n d_TrustDeskModel_isWord_40 rfl rfl ?_
      refine tr_getK (k := 16) q6 d_TrustDeskModel_isWord_41 f_TrustDeskModel_195_13 ?_
      refine mv_iload_n d_TrustDeskModel_isWord_44 rfl rfl ?_
      refine mv_iadd d_TrustDeskModel_isWord_45 ?_
      have b12 : (v7 + 0 : Int32).toInt = (v7.toInt + 0) := mz_add2 rfl (by decide) (by have := yR.1 15 _ _ rfl; have := yR.1 16 _ _ rfl; have := yR.1 19 _ _ rfl; omega) (by have := yR.1 15 _ _ rfl; have := yR.1 16 _ _ rfl; have := yR.1 19 _ _ rfl; omega)
      refine tr_baldR (o := o0) (k := 13) I0 q10 t_a11 (by decide) d_TrustDeskModel_isWord_46 (vp_in_iff.mpr (by have := yR.1 15 _ _ rfl; have := yR.1 16 _ _ rfl; have := yR.1 19 _ _ rfl; omega)) (fun v13 e14 => ?_)
      have := yR.a (k := 13) rfl ((v7 + 0) : Int32).toNatClampNeg
      have h15 : (v7 + 0).toNatClampNeg = (rv M0 o0 16).toNat + 0 := by have := mz_nat9 (i := (v7 + 0)) (by have := yR.1 15 _ _ rfl; have := yR.1 16 _ _ rfl; have := yR.1 19 _ _ rfl; omega); have := yR.1 15 _ _ rfl; have := yR.1 16 _ _ rfl; have := yR.1 19 _ _ rfl; omega
      have : v13.toInt = ra M0 o0 13 ((rv M0 o0 16).toNat + 0) := by rw [e14, h15]
      refine mv_aload_n d_TrustDeskModel_isWord_47 rfl rfl ?_
      refine mv_iload_n d_TrustDeskModel_isWord_48 rfl rfl ?_
      refine mv_schC (i := 10) (v := 98) d_TrustDeskModel_isWord_49 lV_TrustDeskModel_220 (by decide) rfl (by decide) (by decide) (Nat.le_of_ble_eq_true rfl) (by decide) ?_
      have := mz_hi v13
      refine mv_icmp_eqZ (tgt := 57) (a := v13.toInt) (b := 98) d_TrustDeskModel_isWord_52 (by decide) rfl (by decide) (fun b16 => ?_) (fun b16 => ?_)
      · refine mv_iinc (v := 1) (lv' := [(2, .int 1), (0, .ref o0), (1, .ref 20)]) d_TrustDeskModel_isWord_57 rfl (by decide) (by decide) rfl ?_
        refine mv_goto (tgt := 28) d_TrustDeskModel_isWord_60 (by decide) ?_
        refine mv_iload_n d_TrustDeskModel_isWord_28 rfl rfl ?_
        refine mv_aload_n d_TrustDeskModel_isWord_29 rfl rfl ?_
        refine mv_slenK (i := 10) (v := 3) d_TrustDeskModel_isWord_30 lV_TrustDeskModel_214 (by decide) rfl (by decide) (Nat.le_of_ble_eq_true rfl) ?_
        refine mv_icmp_ge_f (tgt := 63) d_TrustDeskModel_isWord_33 (by decide) (by decide) ?_
        refine mv_aload_n d_TrustDeskModel_isWord_36 rfl rfl ?_
        refine tr_getK (k := 13) q10 d_TrustDeskModel_isWord_37 f_TrustDeskModel_44_13 ?_
        refine mv_aload_n d_TrustDeskModel_isWord_40 rfl rfl ?_
        refine tr_getK (k := 16) q6 d_TrustDeskModel_isWord_41 f_TrustDeskModel_195_13 ?_
        refine mv_iload_n d_TrustDeskModel_isWord_44 rfl rfl ?_
        refine mv_iadd d_TrustDeskModel_isWord_45 ?_
        have b17 : (v7 + 1 : Int32).toInt = (v7.toInt + 1) := mz_add2 rfl (by decide) (by have := yR.1 15 _ _ rfl; have := yR.1 16 _ _ rfl; have := yR.1 19 _ _ rfl; omega) (by have := yR.1 15 _ _ rfl; have := yR.1 16 _ _ rfl; have := yR.1 19 _ _ rfl; omega)
        refine tr_baldR (o := o0) (k := 13) I0 q10 t_a11 (by decide) d_TrustDeskModel_isWord_46 (vp_in_iff.mpr (by have := yR.1 15 _ _ rfl; have := yR.1 16 _ _ rfl; have := yR.1 19 _ _ rfl; omega)) (fun v18 e19 => ?_)
        have := yR.a (k := 13) rfl ((v7 + 1) : Int32).toNatClampNeg
        have h20 : (v7 + 1).toNatClampNeg = (rv M0 o0 16).toNat + 1 := by have := mz_nat9 (i := (v7 + 1)) (by have := yR.1 15 _ _ rfl; have := yR.1 16 _ _ rfl; have := yR.1 19 _ _ rfl; omega); have := yR.1 15 _ _ rfl; have := yR.1 16 _ _ rfl; have := yR.1 19 _ _ rfl; omega
        have : v18.toInt = ra M0 o0 13 ((rv M0 o0 16).toNat + 1) := by rw [e19, h20]
        refine mv_aload_n d_TrustDeskModel_isWord_47 rfl rfl ?_
        refine mv_iload_n d_TrustDeskModel_isWord_48 rfl rfl ?_
        refine mv_schC (i := 10) (v := 97) d_TrustDeskModel_isWord_49 lV_TrustDeskModel_220 (by decide) rfl (by decide) (by decide) (Nat.le_of_ble_eq_true rfl) (by decide) ?_
        have := mz_hi v18
        refine mv_icmp_eqZ (tgt := 57) (a := v18.toInt) (b := 97) d_TrustDeskModel_isWord_52 (by decide) rfl (by decide) (fun b21 => ?_) (fun b21 => ?_)
        · refine mv_iinc (v := 2) (lv' := [(2, .int 2), (0, .ref o0), (1, .ref 20)]) d_TrustDeskModel_isWord_57 rfl (by decide) (by decide) rfl ?_
          refine mv_goto (tgt := 28) d_TrustDeskModel_isWord_60 (by decide) ?_
          refine mv_iload_n d_TrustDeskModel_isWord_28 rfl rfl ?_
          refine mv_aload_n d_TrustDeskModel_isWord_29 rfl rfl ?_
          refine mv_slenK (i := 10) (v := 3) d_TrustDeskModel_isWord_30 lV_TrustDeskModel_214 (by decide) rfl (by decide) (Nat.le_of_ble_eq_true rfl) ?_
          refine mv_icmp_ge_f (tgt := 63) d_TrustDeskModel_isWord_33 (by decide) (by decide) ?_
          refine mv_aload_n d_TrustDeskModel_isWord_36 rfl rfl ?_
          refine tr_getK (k := 13) q10 d_TrustDeskModel_isWord_37 f_TrustDeskModel_44_13 ?_
          refine mv_aload_n d_TrustDeskModel_isWord_40 rfl rfl ?_
          refine tr_getK (k := 16) q6 d_TrustDeskModel_isWord_41 f_TrustDeskModel_195_13 ?_
          refine mv_iload_n d_TrustDeskModel_isWord_44 rfl rfl ?_
          refine mv_iadd d_TrustDeskModel_isWord_45 ?_
          have b22 : (v7 + 2 : Int32).toInt = (v7.toInt + 2) := mz_add2 rfl (by decide) (by have := yR.1 15 _ _ rfl; have := yR.1 16 _ _ rfl; have := yR.1 19 _ _ rfl; omega) (by have := yR.1 15 _ _ rfl; have := yR.1 16 _ _ rfl; have := yR.1 19 _ _ rfl; omega)
          refine tr_baldR (o := o0) (k := 13) I0 q10 t_a11 (by decide) d_TrustDeskModel_isWord_46 (vp_in_iff.mpr (by have := yR.1 15 _ _ rfl; have := yR.1 16 _ _ rfl; have := yR.1 19 _ _ rfl; omega)) (fun v23 e24 => ?_)
          have := yR.a (k := 13) rfl ((v7 + 2) : Int32).toNatClampNeg
          have h25 : (v7 + 2).toNatClampNeg = (rv M0 o0 16).toNat + 2 := by have := mz_nat9 (i := (v7 + 2)) (by have := yR.1 15 _ _ rfl; have := yR.1 16 _ _ rfl; have := yR.1 19 _ _ rfl; omega); have := yR.1 15 _ _ rfl; have := yR.1 16 _ _ rfl; have := yR.1 19 _ _ rfl; omega
          have : v23.toInt = ra M0 o0 13 ((rv M0 o0 16).toNat + 2) := by rw [e24, h25]
          refine mv_aload_n d_TrustDeskModel_isWord_47 rfl rfl ?_
          refine mv_iload_n d_TrustDeskModel_isWord_48 rfl rfl ?_
          refine mv_schC (i := 10) (v := 114) d_TrustDeskModel_isWord_49 lV_TrustDeskModel_220 (by decide) rfl (by decide) (by decide) (Nat.le_of_ble_eq_true rfl) (by decide) ?_
          have := mz_hi v23
          refine mv_icmp_eqZ (tgt := 57) (a := v23.toInt) (b := 114) d_TrustDeskModel_isWord_52 (by decide) rfl (by decide) (fun b26 => ?_) (fun b26 => ?_)
          · refine mv_iinc (v := 3) (lv' := [(2, .int 3), (0, .ref o0), (1, .ref 20)]) d_TrustDeskModel_isWord_57 rfl (by decide) (by decide) rfl ?_
            refine mv_goto (tgt := 28) d_TrustDeskModel_isWord_60 (by decide) ?_
            refine mv_iload_n d_TrustDeskModel_isWord_28 rfl rfl ?_
            refine mv_aload_n d_TrustDeskModel_isWord_29 rfl rfl ?_
            refine mv_slenK (i := 10) (v := 3) d_TrustDeskModel_isWord_30 lV_TrustDeskModel_214 (by decide) rfl (by decide) (Nat.le_of_ble_eq_true rfl) ?_
            refine mv_icmp_ge_t (tgt := 63) d_TrustDeskModel_isWord_33 (by decide) (by decide) ?_
            refine mv_iconst (v := 1) d_TrustDeskModel_isWord_63 (by decide) ?_
            exact mv_iret d_TrustDeskModel_isWord_64 rfl (by decide) ⟨_, I0, _, rfl, by decide, by decide, yR, (fun _ => by have := yR.1 15 _ _ rfl; have := yR.1 16 _ _ rfl; have := yR.1 19 _ _ rfl; omega), (fun _ => ⟨by have := yR.1 15 _ _ rfl; have := yR.1 16 _ _ rfl; have := yR.1 19 _ _ rfl; omega, by have := yR.1 15 _ _ rfl; have := yR.1 16 _ _ rfl; have := yR.1 19 _ _ rfl; omega, by have := yR.1 15 _ _ rfl; have := yR.1 16 _ _ rfl; have := yR.1 19 _ _ rfl; omega, by have := yR.1 15 _ _ rfl; have := yR.1 16 _ _ rfl; have := yR.1 19 _ _ rfl; omega, by have := yR.1 15 _ _ rfl; have := yR.1 16 _ _ rfl; have := yR.1 19 _ _ rfl; omega⟩), (fun h => absurd h (by decide))⟩
          · refine mv_iconst (v := 0) d_TrustDeskModel_isWord_55 (by decide) ?_
            exact mv_iret d_TrustDeskModel_isWord_56 rfl (by decide) ⟨_, I0, _, rfl, by decide, by decide, yR, (fun h => absurd h (by decide)), (fun h => absurd h (by decide)), (fun _ h => by obtain ⟨h1, h2, h3, h4, h5⟩ := h; have := yR.1 15 _ _ rfl; have := yR.1 16 _ _ rfl; have := yR.1 19 _ _ rfl; omega)⟩
        · refine mv_iconst (v := 0) d_TrustDeskModel_isWord_55 (by decide) ?_
          exact mv_iret d_TrustDeskModel_isWord_56 rfl (by decide) ⟨_, I0, _, rfl, by decide, by decide, yR, (fun h => absurd h (by decide)), (fun h => absurd h (by decide)), (fun _ h => by obtain ⟨h1, h2, h3, h4, h5⟩ := h; have := yR.1 15 _ _ rfl; have := yR.1 16 _ _ rfl; have := yR.1 19 _ _ rfl; omega)⟩
      · refine mv_iconst (v := 0) d_TrustDeskModel_isWord_55 (by decide) ?_
        exact mv_iret d_TrustDeskModel_isWord_56 rfl (by decide) ⟨_, I0, _, rfl, by decide, by decide, yR, (fun h => absurd h (by decide)), (fun h => absurd h (by decide)), (fun _ h => by obtain ⟨h1, h2, h3, h4, h5⟩ := h; have := yR.1 15 _ _ rfl; have := yR.1 16 _ _ rfl; have := yR.1 19 _ _ rfl; omega)⟩
    · refine mv_iconst (v := 0) d_TrustDeskModel_isWord_24 (by decide) ?_
      exact mv_iret d_TrustDeskModel_isWord_25 rfl (by decide) ⟨_, I0, _, rfl, by decide, by decide, yR, (fun h => absurd h (by decide)), (fun h => absurd h (by decide)), (fun _ h => by obtain ⟨h1, h2, h3, h4, h5⟩ := h; have := yR.1 15 _ _ rfl; have := yR.1 16 _ _ rfl; have := yR.1 19 _ _ rfl; omega)⟩
theorem d_TrustDeskModel_ruleWord_91 : decode kY_TrustDeskModel_ruleWord.2.1 91 = .ok (.ifCond .eq 8, 3) := by decide +kernel
theorem d_TrustDeskModel_ruleWord_99 : decode kY_TrustDeskModel_ruleWord.2.1 99 = .ok (.iconst (-1), 1) := by decide +kernel
theorem d_TrustDeskModel_ruleWord_100 : decode kY_TrustDeskModel_ruleWord.2.1 100 = .ok (.ireturn, 1) := by decide +kernel
theorem d_TrustDeskModel_ruleWord_94 : decode kY_TrustDeskModel_ruleWord.2.1 94 = .ok (.bipush 6, 2) := by decide +kernel
theorem d_TrustDeskModel_ruleWord_96 : decode kY_TrustDeskModel_ruleWord.2.1 96 = .ok (.goto 4, 3) := by decide +kernel
theorem d_TrustDeskModel_ruleWord_80 : decode kY_TrustDeskModel_ruleWord.2.1 80 = .ok (.iconst 5, 1) := by decide +kernel
theorem d_TrustDeskModel_ruleWord_81 : decode kY_TrustDeskModel_ruleWord.2.1 81 = .ok (.goto 19, 3) := by decide +kernel
theorem d_TrustDeskModel_ruleWord_66 : decode kY_TrustDeskModel_ruleWord.2.1 66 = .ok (.iconst 4, 1) := by decide +kernel
theorem d_TrustDeskModel_ruleWord_67 : decode kY_TrustDeskModel_ruleWord.2.1 67 = .ok (.goto 33, 3) := by decide +kernel
theorem d_TrustDeskModel_ruleWord_52 : decode kY_TrustDeskModel_ruleWord.2.1 52 = .ok (.iconst 3, 1) := by decide +kernel
theorem d_TrustDeskModel_ruleWord_53 : decode kY_TrustDeskModel_ruleWord.2.1 53 = .ok (.goto 47, 3) := by decide +kernel
theorem d_TrustDeskModel_ruleWord_38 : decode kY_TrustDeskModel_ruleWord.2.1 38 = .ok (.iconst 2, 1) := by decide +kernel
theorem d_TrustDeskModel_ruleWord_39 : decode kY_TrustDeskModel_ruleWord.2.1 39 = .ok (.goto 61, 3) := by decide +kernel
theorem d_TrustDeskModel_ruleWord_24 : decode kY_TrustDeskModel_ruleWord.2.1 24 = .ok (.iconst 1, 1) := by decide +kernel
theorem d_TrustDeskModel_ruleWord_25 : decode kY_TrustDeskModel_ruleWord.2.1 25 = .ok (.goto 75, 3) := by decide +kernel
theorem d_TrustDeskModel_ruleWord_10 : decode kY_TrustDeskModel_ruleWord.2.1 10 = .ok (.iconst 0, 1) := by decide +kernel
theorem d_TrustDeskModel_ruleWord_11 : decode kY_TrustDeskModel_ruleWord.2.1 11 = .ok (.goto 89, 3) := by decide +kernel
def w_TrustDeskModel_ruleWord_x : List Nat := []
set_option maxHeartbeats 100000000 in theorem tc_TrustDeskModel_ruleWord_x {g : mj_G} {l : Launch} {d : Nat} {T0 : tm_H} {M0 : mj_M} {n0 x9 : Nat} {o0 : Nat} (h_o0 : T0 o0 = some (0, 13, 0)) (yR : rI M0 o0) {pb : Nat → Int} {pn : Nat} {pa : Int} {ps : p_S} (yO : pO M0 o0 pb pn pa ps) (yw : rv M0 o0 19 = 0) (I0 : tm_I tm_FT (tm_in w_TrustDeskModel_ruleWord_x) x9 T0 M0 n0 T0 M0 n0) : mj_Met g l kY_TrustDeskModel_ruleWord (d + 5) [.ref o0] M0 n0 0 0 (tm_Q tm_FT (tm_in w_TrustDeskModel_ruleWord_x) x9 T0 M0 n0 (fun r _ M => ∃ v : Int32, r = some (.int v) ∧ rI M o0 ∧ (-1 ≤ v.toInt ∧ v.toInt ≤ 6) ∧ ((13 ≤ p_wi pb pn ps.2.2 ∧ p_wi pb pn ps.2.2 ≤ 18 ∧ v.toInt = p_wi pb pn ps.2.2 - 13) ∨ (p_wi pb pn ps.2.2 = 23 ∧ v.toInt = 6) ∨ (¬ (13 ≤ p_wi pb pn ps.2.2 ∧ p_wi pb pn ps.2.2 ≤ 18) ∧ p_wi pb pn ps.2.2 ≠ 23 ∧ v.toInt = -1)))) := by
  refine mj_enter (by decide) (Nat.le_of_ble_eq_true rfl) ?_
  have := yO.w
  refine mv_aload_n d_TrustDeskModel_ruleWord_0 rfl rfl ?_
  refine mv_ldcSw (id := 14) (tx := "fail") d_TrustDeskModel_ruleWord_1 (List.mem_of_getElem? (i := 4) rfl) ?_
  obtain ⟨_, b7, -⟩ := I0.1 _ _ h_o0
  refine mv_callV (kc' := 0) (ks' := 0) (As := [.ref 14]) (st9 := [.ref 14, .ref o0]) d_TrustDeskModel_ruleWord_4 lV_TrustDeskModel_244 b7 rfl (tc_TrustDeskModel_isWord_s1_14_x (d := d) (x9 := x9) (o0 := o0) h_o0 yR I0.start) rfl (Nat.le_of_ble_eq_true rfl) (Nat.le_of_ble_eq_true rfl) (Nat.le_of_ble_eq_true rfl) (hst := rfl) (fun b1r M2 n3 b1 => ?_)
  obtain ⟨T4, J5, v8, rfl, b9, b10, R11, f12, f13, f14⟩ := b1
  have I6 := I0.call J5 (tm_sub (by decide)) (Or.inl rfl)
  have t15 := J5.up h_o0
  replace f12 := Im.i f12
  replace f13 := Im.i f13
  replace f14 := Im.i f14
  have z16 := (rv_c I0 J5 (I0.up h_o0) (k := 17) rfl)
  have Z917 : pO M2 o0 pb pn pa ps := yO.same (rE_hv I0 J5 (I0.up h_o0) 14 20 (by decide)) (rv_c I0 J5 (I0.up h_o0) (k := 23) rfl) (ra_call I0 J5 (I0.up h_o0) (k := 13) rfl rfl rfl)
  have d18 := Im.i (pO.w_13 yO (by have := yR.1 15 _ _ rfl; have := yR.1 16 _ _ rfl; have := yR.1 19 _ _ rfl; omega) (Im.o f13) (Im.o f14) (by have := yR.1 15 _ _ rfl; have := yR.1 16 _ _ rfl; have := yR.1 19 _ _ rfl; omega))
  have := mz_hi v8
  refine mv_if_eqZ (tgt := 14) (a := v8.toInt) d_TrustDeskModel_ruleWord_7 (by decide) rfl (fun b19 => ?_) (fun b19 => ?_)
  · refine mv_aload_n d_TrustDeskModel_ruleWord_14 rfl rfl ?_
    refine mv_ldcSw (id := 15) (tx := "keep") d_TrustDeskModel_ruleWord_15 (List.mem_of_getElem? (i := 5) rfl) ?_
    obtain ⟨_, b26, -⟩ := I6.1 _ _ t15
    refine mv_callV (kc' := 0) (ks' := 0) (As := [.ref 15]) (st9 := [.ref 15, .ref o0]) d_TrustDeskModel_ruleWord_18 lV_TrustDeskModel_244 b26 rfl (tc_TrustDeskModel_isWord_s1_15_x (d := d) (x9 := x9) (o0 := o0) t15 R11 I6.start) rfl (Nat.le_of_ble_eq_true rfl) (Nat.le_of_ble_eq_true rfl) (Nat.le_of_ble_eq_true rfl) (hst := rfl) (fun b20r M21 n22 b20 => ?_)
    obtain ⟨T23, J24, v27, rfl, b28, b29, R30, f31, f32, f33⟩ := b20
    have I25 := I6.call J24 (tm_sub (by decide)) (Or.inl rfl)
    have t34 := J24.up t15
    replace f31 := Im.i f31
    replace f32 := Im.i f32
    replace f33 := Im.i f33
    have z35 := (rv_c I6 J24 (I6.up h_o0) (k := 17) rfl).trans z16
    have Z936 : pO M21 o0 pb pn pa ps := Z917.same (rE_hv I6 J24 (I6.up h_o0) 14 20 (by decide)) (rv_c I6 J24 (I6.up h_o0) (k := 23) rfl) (ra_call I6 J24 (I6.up h_o0) (k := 13) rfl rfl rfl)
    have d37 := Im.i (pO.w_14 Z917 (by have := R11.1 15 _ _ rfl; have := R11.1 16 _ _ rfl; have := R11.1 19 _ _ rfl; omega) (Im.o f32) (Im.o f33) (by have := R11.1 15 _ _ rfl; have := R11.1 16 _ _ rfl; have := R11.1 19 _ _ rfl; omega))
    have := mz_hi v27
    refine mv_if_eqZ (tgt := 28) (a := v27.toInt) d_TrustDeskModel_ruleWord_21 (by decide) rfl (fun b38 => ?_) (fun b38 => ?_)
    · refine mv_aload_n d_TrustDeskModel_ruleWord_28 rfl rfl ?_
      refine mv_ldcSw (id := 16) (tx := "days") d_TrustDeskModel_ruleWord_29 (List.mem_of_getElem? (i := 6) rfl) ?_
      obtain ⟨_, b45, -⟩ := I25.1 _ _ t34
      refine mv_callV (kc' := 0) (ks' := 0) (As := [.ref 16]) (st9 := [.ref 16, .ref o0]) d_TrustDeskModel_ruleWord_32 lV_TrustDeskModel_244 b45 rfl (tc_TrustDeskModel_isWord_s1_16_x (d := d) (x9 := x9) (o0 := o0) t34 R30 I25.start) rfl (Nat.le_of_ble_eq_true rfl) (Nat.le_of_ble_eq_true rfl) (Nat.le_of_ble_eq_true rfl) (hst := rfl) (fun b39r M40 n41 b39 => ?_)
      obtain ⟨T42, J43, v46, rfl, b47, b48, R49, f50, f51, f52⟩ := b39
      have I44 := I25.call J43 (tm_sub (by decide)) (Or.inl rfl)
      have t53 := J43.up t34
      replace f50 := Im.i f50
      replace f51 := Im.i f51
      replace f52 := Im.i f52
      have z54 := (rv_c I25 J43 (I25.up h_o0) (k := 17) rfl).trans z35
      have Z955 : pO M40 o0 pb pn pa ps := Z936.same (rE_hv I25 J43 (I25.up h_o0) 14 20 (by decide)) (rv_c I25 J43 (I25.up h_o0) (k := 23) rfl) (ra_call I25 J43 (I25.up h_o0) (k := 13) rfl rfl rfl)
      have d56 := Im.i (pO.w_15 Z936 (by have := R30.1 15 _ _ rfl; have := R30.1 16 _ _ rfl; have := R30.1 19 _ _ rfl; omega) (Im.o f51) (Im.o f52) (by have := R30.1 15 _ _ rfl; have := R30.1 16 _ _ rfl; have := R30.1 19 _ _ rfl; omega))
      have := mz_hi v46
      refine mv_if_eqZ (tgt := 42) (a := v46.toInt) d_TrustDeskModel_ruleWord_35 (by decide) rfl (fun b57 => ?_) (fun b57 => ?_)
      · refine mv_aload_n d_TrustDeskModel_ruleWord_42 rfl rfl ?_
        refine mv_ldcSw (id := 17) (tx := "late") d_TrustDeskModel_ruleWord_43 (List.mem_of_getElem? (i := 7) rfl) ?_
        obtain ⟨_, b64, -⟩ := I44.1 _ _ t53
        refine mv_callV (kc' := 0) (ks' := 0) (As := [.ref 17]) (st9 := [.ref 17, .ref o0]) d_TrustDeskModel_ruleWord_46 lV_TrustDeskModel_244 b64 rfl (tc_TrustDeskModel_isWord_s1_17_x (d := d) (x9 := x9) (o0 := o0) t53 R49 I44.start) rfl (Nat.le_of_ble_eq_true rfl) (Nat.le_of_ble_eq_true rfl) (Nat.le_of_ble_eq_true rfl) (hst := rfl) (fun b58r M59 n60 b58 => ?_)
        obtain ⟨T61, J62, v65, rfl, b66, b67, R68, f69, f70, f71⟩ := b58
        have I63 := I44.call J62 (tm_sub (by decide)) (Or.inl rfl)
        have t72 := J62.up t53
        replace f69 := Im.i f69
        replace f70 := Im.i f70
        replace f71 := Im.i f71
        have z73 := (rv_c I44 J62 (I44.up h_o0) (k := 17) rfl).trans z54
        have Z974 : pO M59 o0 pb pn pa ps := Z955.same (rE_hv I44 J62 (I44.up h_o0) 14 20 (by decide)) (rv_c I44 J62 (I44.up h_o0) (k := 23) rfl) (ra_call I44 J62 (I44.up h_o0) (k := 13) rfl rfl rfl)
        have d75 := Im.i (pO.w_16 Z955 (by have := R49.1 15 _ _ rfl; have := R49.1 16 _ _ rfl; have := R49.1 19 _ _ rfl; omega) (Im.o f70) (Im.o f71) (by have := R49.1 15 _ _ rfl; have := R49.1 16 _ _ rfl; have := R49.1 19 _ _ rfl; omega))
        have := mz_hi v65
        refine mv_if_eqZ (tgt := 56) (a := v65.toInt) d_TrustDeskModel_ruleWord_49 (by decide) rfl (fun b76 => ?_) (fun b76 => ?_)
        · refine mv_aload_n d_TrustDeskModel_ruleWord_56 rfl rfl ?_
          refine mv_ldcSw (id := 18) (tx := "gain") d_TrustDeskModel_ruleWord_57 (List.mem_of_getElem? (i := 8) rfl) ?_
          obtain ⟨_, b83, -⟩ := I63.1 _ _ t72
          refine mv_callV (kc' := 0) (ks' := 0) (As := [.ref 18]) (st9 := [.ref 18, .ref o0]) d_TrustDeskModel_ruleWord_60 lV_TrustDeskModel_244 b83 rfl (tc_TrustDeskModel_isWord_s1_18_x (d := d) (x9 := x9) (o0 := o0) t72 R68 I63.start) rfl (Nat.le_of_ble_eq_true rfl) (Nat.le_of_ble_eq_true rfl) (Nat.le_of_ble_eq_true rfl) (hst := rfl) (fun b77r M78 n79 b77 => ?_)
          obtain ⟨T80, J81, v84, rfl, b85, b86, R87, f88, f89, f90⟩ := b77
          have I82 := I63.call J81 (tm_sub (by decide)) (Or.inl rfl)
          have t91 := J81.up t72
          replace f88 := Im.i f88
          replace f89 := Im.i f89
          replace f90 := Im.i f90
          have z92 := (rv_c I63 J81 (I63.up h_o0) (k := 17) rfl).trans z73
          have Z993 : pO M78 o0 pb pn pa ps := Z974.same (rE_hv I63 J81 (I63.up h_o0) 14 20 (by decide)) (rv_c I63 J81 (I63.up h_o0) (k := 23) rfl) (ra_call I63 J81 (I63.up h_o0) (k := 13) rfl rfl rfl)
          have d94 := Im.i (pO.w_17 Z974 (by have := R68.1 15 _ _ rfl; have := R68.1 16 _ _ rfl; have := R68.1 19 _ _ rfl; omega) (Im.o f89) (Im.o f90) (by have := R68.1 15 _ _ rfl; have := R68.1 16 _ _ rfl; have := R68.1 19 _ _ rfl; omega))
          have := mz_hi v84
          refine mv_if_eqZ (tgt := 70) (a := v84.toInt) d_TrustDeskModel_ruleWord_63 (by decide) rfl (fun b95 => ?_) (fun b95 => ?_)
          · refine mv_aload_n d_TrustDeskModel_ruleWord_70 rfl rfl ?_
            refine mv_ldcSw (id := 19) (tx := "sell") d_TrustDeskModel_ruleWord_71 (List.mem_of_getElem? (i := 9) rfl) ?_
            obtain ⟨_, b102, -⟩ := I82.1 _ _ t91
            refine mv_callV (kc' := 0) (ks' := 0) (As := [.ref 19]) (st9 := [.ref 19, .ref o0]) d_TrustDeskModel_ruleWord_74 lV_TrustDeskModel_244 b102 rfl (tc_TrustDeskModel_isWord_s1_19_x (d := d) (x9 := x9) (o0 := o0) t91 R87 I82.start) rfl (Nat.le_of_ble_eq_true rfl) (Nat.le_of_ble_eq_true rfl) (Nat.le_of_ble_eq_true rfl) (hst := rfl) (fun b96r M97 n98 b96 => ?_)
            obtain ⟨T99, J100, v103, rfl, b104, b105, R106, f107, f108, f109⟩ := b96
            have I101 := I82.call J100 (tm_sub (by decide)) (Or.inl rfl)
            have t110 := J100.up t91
            replace f107 := Im.i f107
            replace f108 := Im.i f108
            replace f109 := Im.i f109
            have z111 := (rv_c I82 J100 (I82.up h_o0) (k := 17) rfl).trans z92
            have Z9112 : pO M97 o0 pb pn pa ps := Z993.same (rE_hv I82 J100 (I82.up h_o0) 14 20 (by decide)) (rv_c I82 J100 (I82.up h_o0) (k := 23) rfl) (ra_call I82 J100 (I82.up h_o0) (k := 13) rfl rfl rfl)
            have d113 := Im.i (pO.w_18 Z993 (by have := R87.1 15 _ _ rfl; have := R87.1 16 _ _ rfl; have := R87.1 19 _ _ rfl; omega) (Im.o f108) (Im.o f109) (by have := R87.1 15 _ _ rfl; have := R87.1 16 _ _ rfl; have := R87.1 19 _ _ rfl; omega))
            have := mz_hi v103
            refine mv_if_eqZ (tgt := 84) (a := v103.toInt) d_TrustDeskModel_ruleWord_77 (by decide) rfl (fun b114 => ?_) (fun b114 => ?_)
            · refine mv_aload_n d_TrustDeskModel_ruleWord_84 rfl rfl ?_
              refine mv_ldcSw (id := 20) (tx := "bar") d_TrustDeskModel_ruleWord_85 (List.mem_of_getElem? (i := 10) rfl) ?_
              obtain ⟨_, b121, -⟩ := I101.1 _ _ t110
              refine mv_callV (kc' := 0) (ks' := 0) (As := [.ref 20]) (st9 := [.ref 20, .ref o0]) d_TrustDeskModel_ruleWord_88 lV_TrustDeskModel_244 b121 rfl (tc_TrustDeskModel_isWord_s1_20_x (d := d) (x9 := x9) (o0 := o0) t110 R106 I101.start) rfl (Nat.le_of_ble_eq_true rfl) (Nat.le_of_ble_eq_true rfl) (Nat.le_of_ble_eq_true rfl) (hst := rfl) (fun b115r M116 n117 b115 => ?_)
              obtain ⟨T118, J119, v122, rfl, b123, b124, R125, f126, f127, f128⟩ := b115
              have I120 := I101.call J119 (tm_sub (by decide)) (Or.inl rfl)
              have t129 := J119.up t110
              replace f126 := Im.i f126
              replace f127 := Im.i f127
              replace f128 := Im.i f128
              have z130 := (rv_c I101 J119 (I101.up h_o0) (k := 17) rfl).trans z111
              have Z9131 : pO M116 o0 pb pn pa ps := Z9112.same (rE_hv I101 J119 (I101.up h_o0) 14 20 (by decide)) (rv_c I101 J119 (I101.up h_o0) (k := 23) rfl) (ra_call I101 J119 (I101.up h_o0) (k := 13) rfl rfl rfl)
              have d132 := Im.i (pO.w_23 Z9112 (by have := R106.1 15 _ _ rfl; have := R106.1 16 _ _ rfl; have := R106.1 19 _ _ rfl; omega) (Im.o f127) (Im.o f128) (by have := R106.1 15 _ _ rfl; have := R106.1 16 _ _ rfl; have := R106.1 19 _ _ rfl; omega))
              have := mz_hi v122
              refine mv_if_eqZ (tgt := 99) (a := v122.toInt) d_TrustDeskModel_ruleWord_91 (by decide) rfl (fun b133 => ?_) (fun b133 => ?_)
              · refine mv_iconst (v := (-1)) d_TrustDeskModel_ruleWord_99 (by decide) ?_
                exact mv_iret d_TrustDeskModel_ruleWord_100 rfl (by first | rfl | decide) ⟨_, I120, _, rfl, R125, (by decide), (by have w_13 := pW0 (Im.o d18) (by omega); have w_14 := pW0 (Im.o d37) (by omega); have w_15 := pW0 (Im.o d56) (by omega); have w_16 := pW0 (Im.o d75) (by omega); have w_17 := pW0 (Im.o d94) (by omega); have w_18 := pW0 (Im.o d113) (by omega); have w_23 := pW0 (Im.o d132) (by omega); have := p_norw w_13 w_14 w_15 w_16 w_17 w_18 w_23; have e9 : ((-1) : Int32).toInt = (-1) := (by decide); clear w_13 w_14 w_15 w_16 w_17 w_18 w_23; omega)⟩
              · refine mv_bipush (v := 6) d_TrustDeskModel_ruleWord_94 (by decide) ?_
                refine mv_goto (tgt := 100) d_TrustDeskModel_ruleWord_96 (by decide) ?_
                exact mv_iret d_TrustDeskModel_ruleWord_100 rfl (by first | rfl | decide) ⟨_, I120, _, rfl, R125, (by decide), (by have w_23 := pW1 (Im.o d132) (by omega); have e9 : (6 : Int32).toInt = 6 := (by decide); omega)⟩
            · refine mv_iconst (v := 5) d_TrustDeskModel_ruleWord_80 (by decide) ?_
              refine mv_goto (tgt := 100) d_TrustDeskModel_ruleWord_81 (by decide) ?_
              exact mv_iret d_TrustDeskModel_ruleWord_100 rfl (by first | rfl | decide) ⟨_, I101, _, rfl, R106, (by decide), (by have w_18 := pW1 (Im.o d113) (by omega); have e9 : (5 : Int32).toInt = 5 := (by decide); omega)⟩
          · refine mv_iconst (v := 4) d_TrustDeskModel_ruleWord_66 (by decide) ?_
            refine mv_goto (tgt := 100) d_TrustDeskModel_ruleWord_67 (by decide) ?_
            exact mv_iret d_TrustDeskModel_ruleWord_100 rfl (by first | rfl | decide) ⟨_, I82, _, rfl, R87, (by decide), (by have w_17 := pW1 (Im.o d94) (by omega); have e9 : (4 : Int32).toInt = 4 := (by decide); omega)⟩
        · refine mv_iconst (v := 3) d_TrustDeskModel_ruleWord_52 (by decide) ?_
          refine mv_goto (tgt := 100) d_TrustDeskModel_ruleWord_53 (by decide) ?_
          exact mv_iret d_TrustDeskModel_ruleWord_100 rfl (by first | rfl | decide) ⟨_, I63, _, rfl, R68, (by decide), (by have w_16 := pW1 (Im.o d75) (by omega); have e9 : (3 : Int32).toInt = 3 := (by decide); omega)⟩
      · refine mv_iconst (v := 2) d_TrustDeskModel_ruleWord_38 (by decide) ?_
        refine mv_goto (tgt := 100) d_TrustDeskModel_ruleWord_39 (by decide) ?_
        exact mv_iret d_TrustDeskModel_ruleWord_100 rfl (by first | rfl | decide) ⟨_, I44, _, rfl, R49, (by decide), (by have w_15 := pW1 (Im.o d56) (by omega); have e9 : (2 : Int32).toInt = 2 := (by decide); omega)⟩
    · refine mv_iconst (v := 1) d_TrustDeskModel_ruleWord_24 (by decide) ?_
      refine mv_goto (tgt := 100) d_TrustDeskModel_ruleWord_25 (by decide) ?_
      exact mv_iret d_TrustDeskModel_ruleWord_100 rfl (by first | rfl | decide) ⟨_, I25, _, rfl, R30, (by decide), (by have w_14 := pW1 (Im.o d37) (by omega); have e9 : (1 : Int32).toInt = 1 := (by decide); omega)⟩
  · refine mv_iconst (v := 0) d_TrustDeskModel_ruleWord_10 (by decide) ?_
    refine mv_goto (tgt := 100) d_TrustDeskModel_ruleWord_11 (by decide) ?_
    exact mv_iret d_TrustDeskModel_ruleWord_100 rfl (by first | rfl | decide) ⟨_, I6, _, rfl, R11, (by decide), (by have w_13 := pW1 (Im.o d18) (by omega); have e9 : (0 : Int32).toInt = 0 := (by decide); omega)⟩
theorem lV_TrustDeskModel_365 : mj_lV "TrustDeskModel" 365 kY_TrustDeskModel_ruleWord 0 := ⟨⟨(mj_in1 (List.mem_of_getElem? (i := 1670) (by decide +kernel)) rfl), (mj_in1 (List.mem_of_getElem? (i := 10) (by decide +kernel)) rfl), (mj_in1 (List.mem_of_getElem? (i := 1673) (by decide +kernel)) rfl), by decide, rfl, by decide⟩, (mj_in1 (List.mem_of_getElem? (i := 1672) (by decide +kernel)) rfl), (mj_in (List.mem_append_left _ (List.mem_of_getElem? (i := 85) (by decide +kernel))) rfl)⟩
theorem d_TrustDeskModel_readRule_4 : decode kY_TrustDeskModel_readRule.2.1 4 = .ok (.istore_n 1, 1) := by decide +kernel
theorem d_TrustDeskModel_readRule_5 : decode kY_TrustDeskModel_readRule.2.1 5 = .ok (.iload_n 1, 1) := by decide +kernel
theorem d_TrustDeskModel_readRule_6 : decode kY_TrustDeskModel_readRule.2.1 6 = .ok (.iconst (-1), 1) := by decide +kernel
theorem d_TrustDeskModel_readRule_7 : decode kY_TrustDeskModel_readRule.2.1 7 = .ok (.if_icmp .ne 11, 3) := by decide +kernel
theorem d_TrustDeskModel_readRule_18 : decode kY_TrustDeskModel_readRule.2.1 18 = .ok (.aload_n 0, 1) := by decide +kernel
theorem d_TrustDeskModel_readRule_19 : decode kY_TrustDeskModel_readRule.2.1 19 = .ok (.getfield 23, 3) := by decide +kernel
theorem d_TrustDeskModel_readRule_22 : decode kY_TrustDeskModel_readRule.2.1 22 = .ok (.bipush 44, 2) := by decide +kernel
theorem d_TrustDeskModel_readRule_24 : decode kY_TrustDeskModel_readRule.2.1 24 = .ok (.iaload, 1) := by decide +kernel
theorem d_TrustDeskModel_readRule_25 : decode kY_TrustDeskModel_readRule.2.1 25 = .ok (.bipush 20, 2) := by decide +kernel
theorem d_TrustDeskModel_readRule_27 : decode kY_TrustDeskModel_readRule.2.1 27 = .ok (.if_icmp .ne 8, 3) := by decide +kernel
theorem d_TrustDeskModel_readRule_35 : decode kY_TrustDeskModel_readRule.2.1 35 = .ok (.aload_n 0, 1) := by decide +kernel
theorem d_TrustDeskModel_readRule_36 : decode kY_TrustDeskModel_readRule.2.1 36 = .ok (.invokevirtual 230, 3) := by decide +kernel
theorem d_TrustDeskModel_readRule_39 : decode kY_TrustDeskModel_readRule.2.1 39 = .ok (.ifCond .ne 4, 3) := by decide +kernel
theorem d_TrustDeskModel_readRule_42 : decode kY_TrustDeskModel_readRule.2.1 42 = .ok (.return_, 1) := by decide +kernel
theorem d_TrustDeskModel_readRule_43 : decode kY_TrustDeskModel_readRule.2.1 43 = .ok (.aload_n 0, 1) := by decide +kernel
theorem d_TrustDeskModel_readRule_44 : decode kY_TrustDeskModel_readRule.2.1 44 = .ok (.iload_n 1, 1) := by decide +kernel
theorem d_TrustDeskModel_readRule_45 : decode kY_TrustDeskModel_readRule.2.1 45 = .ok (.invokevirtual 342, 3) := by decide +kernel
theorem d_TrustDeskModel_readRule_48 : decode kY_TrustDeskModel_readRule.2.1 48 = .ok (.istore_n 2, 1) := by decide +kernel
theorem d_TrustDeskModel_readRule_49 : decode kY_TrustDeskModel_readRule.2.1 49 = .ok (.iload_n 1, 1) := by decide +kernel
theorem d_TrustDeskModel_readRule_50 : decode kY_TrustDeskModel_readRule.2.1 50 = .ok (.bipush 6, 2) := by decide +kernel
theorem d_TrustDeskModel_readRule_52 : decode kY_TrustDeskModel_readRule.2.1 52 = .ok (.if_icmp .ne 119, 3) := by decide +kernel
theorem d_TrustDeskModel_readRule_171 : decode kY_TrustDeskModel_readRule.2.1 171 = .ok (.iload_n 1, 1) := by decide +kernel
theorem d_TrustDeskModel_readRule_172 : decode kY_TrustDeskModel_readRule.2.1 172 = .ok (.iconst 1, 1) := by decide +kernel
theorem d_TrustDeskModel_readRule_173 : decode kY_TrustDeskModel_readRule.2.1 173 = .ok (.if_icmp .eq 8, 3) := by decide +kernel
theorem d_TrustDeskModel_readRule_181 : decode kY_TrustDeskModel_readRule.2.1 181 = .ok (.iconst 0, 1) := by decide +kernel
theorem d_TrustDeskModel_readRule_182 : decode kY_TrustDeskModel_readRule.2.1 182 = .ok (.goto 4, 3) := by decide +kernel
theorem d_TrustDeskModel_readRule_186 : decode kY_TrustDeskModel_readRule.2.1 186 = .ok (.istore_n 3, 1) := by decide +kernel
theorem d_TrustDeskModel_readRule_187 : decode kY_TrustDeskModel_readRule.2.1 187 = .ok (.aload_n 0, 1) := by decide +kernel
theorem d_TrustDeskModel_readRule_188 : decode kY_TrustDeskModel_readRule.2.1 188 = .ok (.getfield 29, 3) := by decide +kernel
theorem d_TrustDeskModel_readRule_191 : decode kY_TrustDeskModel_readRule.2.1 191 = .ok (.iload_n 2, 1) := by decide +kernel
theorem d_TrustDeskModel_readRule_192 : decode kY_TrustDeskModel_readRule.2.1 192 = .ok (.aload_n 0, 1) := by decide +kernel
theorem d_TrustDeskModel_readRule_193 : decode kY_TrustDeskModel_readRule.2.1 193 = .ok (.iload_n 3, 1) := by decide +kernel
theorem d_TrustDeskModel_readRule_194 : decode kY_TrustDeskModel_readRule.2.1 194 = .ok (.iload_n 1, 1) := by decide +kernel
theorem d_TrustDeskModel_readRule_195 : decode kY_TrustDeskModel_readRule.2.1 195 = .ok (.ifCond .ne 8, 3) := by decide +kernel
theorem d_TrustDeskModel_readRule_203 : decode kY_TrustDeskModel_readRule.2.1 203 = .ok (.iload_n 1, 1) := by decide +kernel
theorem d_TrustDeskModel_readRule_204 : decode kY_TrustDeskModel_readRule.2.1 204 = .ok (.iconst 1, 1) := by decide +kernel
theorem d_TrustDeskModel_readRule_205 : decode kY_TrustDeskModel_readRule.2.1 205 = .ok (.if_icmp .ne 8, 3) := by decide +kernel
theorem d_TrustDeskModel_readRule_208 : decode kY_TrustDeskModel_readRule.2.1 208 = .ok (.bipush 8, 2) := by decide +kernel
theorem d_TrustDeskModel_readRule_210 : decode kY_TrustDeskModel_readRule.2.1 210 = .ok (.goto 37, 3) := by decide +kernel
theorem d_TrustDeskModel_readRule_247 : decode kY_TrustDeskModel_readRule.2.1 247 = .ok (.invokevirtual 317, 3) := by decide +kernel
theorem d_TrustDeskModel_readRule_250 : decode kY_TrustDeskModel_readRule.2.1 250 = .ok (.iastore, 1) := by decide +kernel
theorem d_TrustDeskModel_readRule_251 : decode kY_TrustDeskModel_readRule.2.1 251 = .ok (.aload_n 0, 1) := by decide +kernel
theorem d_TrustDeskModel_readRule_252 : decode kY_TrustDeskModel_readRule.2.1 252 = .ok (.bipush 59, 2) := by decide +kernel
theorem d_TrustDeskModel_readRule_254 : decode kY_TrustDeskModel_readRule.2.1 254 = .ok (.invokevirtual 291, 3) := by decide +kernel
theorem d_TrustDeskModel_readRule_257 : decode kY_TrustDeskModel_readRule.2.1 257 = .ok (.aload_n 0, 1) := by decide +kernel
theorem d_TrustDeskModel_readRule_258 : decode kY_TrustDeskModel_readRule.2.1 258 = .ok (.getfield 41, 3) := by decide +kernel
theorem d_TrustDeskModel_readRule_261 : decode kY_TrustDeskModel_readRule.2.1 261 = .ok (.iload_n 2, 1) := by decide +kernel
theorem d_TrustDeskModel_readRule_262 : decode kY_TrustDeskModel_readRule.2.1 262 = .ok (.aload_n 0, 1) := by decide +kernel
theorem d_TrustDeskModel_readRule_263 : decode kY_TrustDeskModel_readRule.2.1 263 = .ok (.getfield 20, 3) := by decide +kernel
theorem d_TrustDeskModel_readRule_266 : decode kY_TrustDeskModel_readRule.2.1 266 = .ok (.bipush 44, 2) := by decide +kernel
theorem d_TrustDeskModel_readRule_268 : decode kY_TrustDeskModel_readRule.2.1 268 = .ok (.iaload, 1) := by decide +kernel
theorem d_TrustDeskModel_readRule_269 : decode kY_TrustDeskModel_readRule.2.1 269 = .ok (.iastore, 1) := by decide +kernel
theorem d_TrustDeskModel_readRule_270 : decode kY_TrustDeskModel_readRule.2.1 270 = .ok (.return_, 1) := by decide +kernel
theorem d_TrustDeskModel_readRule_176 : decode kY_TrustDeskModel_readRule.2.1 176 = .ok (.iload_n 1, 1) := by decide +kernel
theorem d_TrustDeskModel_readRule_177 : decode kY_TrustDeskModel_readRule.2.1 177 = .ok (.iconst 4, 1) := by decide +kernel
theorem d_TrustDeskModel_readRule_178 : decode kY_TrustDeskModel_readRule.2.1 178 = .ok (.if_icmp .ne 7, 3) := by decide +kernel
theorem d_TrustDeskModel_readRule_185 : decode kY_TrustDeskModel_readRule.2.1 185 = .ok (.iconst 1, 1) := by decide +kernel
theorem d_TrustDeskModel_readRule_213 : decode kY_TrustDeskModel_readRule.2.1 213 = .ok (.iload_n 1, 1) := by decide +kernel
theorem d_TrustDeskModel_readRule_214 : decode kY_TrustDeskModel_readRule.2.1 214 = .ok (.iconst 2, 1) := by decide +kernel
theorem d_TrustDeskModel_readRule_215 : decode kY_TrustDeskModel_readRule.2.1 215 = .ok (.if_icmp .ne 9, 3) := by decide +kernel
theorem d_TrustDeskModel_readRule_224 : decode kY_TrustDeskModel_readRule.2.1 224 = .ok (.iload_n 1, 1) := by decide +kernel
theorem d_TrustDeskModel_readRule_225 : decode kY_TrustDeskModel_readRule.2.1 225 = .ok (.iconst 3, 1) := by decide +kernel
theorem d_TrustDeskModel_readRule_226 : decode kY_TrustDeskModel_readRule.2.1 226 = .ok (.if_icmp .ne 9, 3) := by decide +kernel
theorem d_TrustDeskModel_readRule_235 : decode kY_TrustDeskModel_readRule.2.1 235 = .ok (.iload_n 1, 1) := by decide +kernel
theorem d_TrustDeskModel_readRule_236 : decode kY_TrustDeskModel_readRule.2.1 236 = .ok (.iconst 4, 1) := by decide +kernel
theorem d_TrustDeskModel_readRule_237 : decode kY_TrustDeskModel_readRule.2.1 237 = .ok (.if_icmp .ne 8, 3) := by decide +kernel
theorem d_TrustDeskModel_readRule_245 : decode kY_TrustDeskModel_readRule.2.1 245 = .ok (.bipush 40, 2) := by decide +kernel
theorem d_TrustDeskModel_readRule_229 : decode kY_TrustDeskModel_readRule.2.1 229 = .ok (.sipush 720, 3) := by decide +kernel
theorem d_TrustDeskModel_readRule_232 : decode kY_TrustDeskModel_readRule.2.1 232 = .ok (.goto 15, 3) := by decide +kernel
theorem d_TrustDeskModel_readRule_218 : decode kY_TrustDeskModel_readRule.2.1 218 = .ok (.sipush 360, 3) := by decide +kernel
theorem d_TrustDeskModel_readRule_221 : decode kY_TrustDeskModel_readRule.2.1 221 = .ok (.goto 26, 3) := by decide +kernel
theorem d_TrustDeskModel_readRule_198 : decode kY_TrustDeskModel_readRule.2.1 198 = .ok (.bipush 50, 2) := by decide +kernel
theorem d_TrustDeskModel_readRule_200 : decode kY_TrustDeskModel_readRule.2.1 200 = .ok (.goto 47, 3) := by decide +kernel
theorem d_TrustDeskModel_readRule_240 : decode kY_TrustDeskModel_readRule.2.1 240 = .ok (.bipush 20, 2) := by decide +kernel
theorem d_TrustDeskModel_readRule_242 : decode kY_TrustDeskModel_readRule.2.1 242 = .ok (.goto 5, 3) := by decide +kernel
theorem d_TrustDeskModel_readRule_55 : decode kY_TrustDeskModel_readRule.2.1 55 = .ok (.aload_n 0, 1) := by decide +kernel
theorem d_TrustDeskModel_readRule_56 : decode kY_TrustDeskModel_readRule.2.1 56 = .ok (.getfield 29, 3) := by decide +kernel
theorem d_TrustDeskModel_readRule_59 : decode kY_TrustDeskModel_readRule.2.1 59 = .ok (.iload_n 2, 1) := by decide +kernel
theorem d_TrustDeskModel_readRule_60 : decode kY_TrustDeskModel_readRule.2.1 60 = .ok (.aload_n 0, 1) := by decide +kernel
theorem d_TrustDeskModel_readRule_61 : decode kY_TrustDeskModel_readRule.2.1 61 = .ok (.ldc_w 368, 3) := by decide +kernel
theorem d_TrustDeskModel_readRule_64 : decode kY_TrustDeskModel_readRule.2.1 64 = .ok (.invokevirtual 244, 3) := by decide +kernel
def w_TrustDeskModel_isWord_s1_21_x : List Nat := []
set_option maxHeartbeats 100000000 in theorem tc_TrustDeskModel_isWord_s1_21_x {g : mj_G} {l : Launch} {d : Nat} {T0 : tm_H} {M0 : mj_M} {n0 x9 : Nat} {o0 : Nat} (h_o0 : T0 o0 = some (0, 13, 0)) (yR : rI M0 o0) (I0 : tm_I tm_FT (tm_in w_TrustDeskModel_isWord_s1_21_x) x9 T0 M0 n0 T0 M0 n0) : mj_Met g l kY_TrustDeskModel_isWord (d + 4) [.ref o0, .ref 21] M0 n0 0 0 (tm_Q tm_FT (tm_in w_TrustDeskModel_isWord_s1_21_x) x9 T0 M0 n0 (fun r _ M => ∃ v : Int32, r = some (.int v) ∧ 0 ≤ v.toInt ∧ v.toInt ≤ 1 ∧ rI M o0 ∧ (v.toInt = 1 → rv M0 o0 17 = 3) ∧ (v.toInt = 1 → rv M0 o0 17 = 3 ∧ rv M0 o0 15 - rv M0 o0 16 = 4 ∧ ra M0 o0 13 ((rv M0 o0 16).toNat + 0) = 110 ∧ ra M0 o0 13 ((rv M0 o0 16).toNat + 1) = 101 ∧ ra M0 o0 13 ((rv M0 o0 16).toNat + 2) = 97 ∧ ra M0 o0 13 ((rv M0 o0 16).toNat + 3) = 114) ∧ (v.toInt = 0 → ¬ (rv M0 o0 17 = 3 ∧ rv M0 o0 15 - rv M0 o0 16 = 4 ∧ ra M0 o0 13 ((rv M0 o0 16).toNat + 0) = 110 ∧ ra M0 o0 13 ((rv M0 o0 16).toNat + 1) = 101 ∧ ra M0 o0 13 ((rv M0 o0 16).toNat + 2) = 97 ∧ ra M0 o0 13 ((rv M0 o0 16).toNat + 3) = 114)))) := by
  refine mj_enter (by decide) (Nat.le_of_ble_eq_true rfl) ?_
  refine mv_aload_n d_TrustDeskModel_isWord_0 rfl rfl ?_
  obtain ⟨v2, q1⟩ := tm_atI I0 h_o0 (k := 17) rfl
  refine tr_getK q1 d_TrustDeskModel_isWord_1 f_TrustDeskModel_198_13 ?_
  have := tm_rv q1
  refine mv_iconst (v := 3) d_TrustDeskModel_isWord_4 (by decide) ?_
  have := mz_hi v2
  refine mv_icmp_neZ (tgt := 24) (a := v2.toInt) (b := 3) d_TrustDeskModel_isWord_5 (by decide) rfl (by decide) (fun b3 => ?_) (fun b3 => ?_)
  · refine mv_iconst (v := 0) d_TrustDeskModel_isWord_24 (by decide) ?_
    exact mv_iret d_TrustDeskModel_isWord_25 rfl (by decide) ⟨_, I0, _, rfl, by decide, by decide, yR, (fun h => absurd h (by decide)), (fun h => absurd h (by decide)), (fun _ h => by obtain ⟨h1, h2, h3, h4, h5, h6⟩ := h; have := yR.1 15 _ _ rfl; have := yR.1 16 _ _ rfl; have := yR.1 19 _ _ rfl; omega)⟩
  · refine mv_aload_n d_TrustDeskModel_isWord_8 rfl rfl ?_
    obtain ⟨v5, q4⟩ := tm_atI I0 h_o0 (k := 15) rfl
    refine tr_getK q4 d_TrustDeskModel_isWord_9 f_TrustDeskModel_192_13 ?_
    have := yR.f (k := 15) q4 rfl
    have := tm_rv q4
    refine mv_aload_n d_TrustDeskModel_isWord_12 rfl rfl ?_
    obtain ⟨v7, q6⟩ := tm_atI I0 h_o0 (k := 16) rfl
    refine tr_getK q6 d_TrustDeskModel_isWord_13 f_TrustDeskModel_195_13 ?_
    have := yR.f (k := 16) q6 rfl
    have := tm_rv q6
    refine mv_isub d_TrustDeskModel_isWord_16 ?_
    refine mv_aload_n d_TrustDeskModel_isWord_17 rfl rfl ?_
    refine mv_slenK (i := 11) (v := 4) d_TrustDeskModel_isWord_18 lV_TrustDeskModel_214 (by decide) rfl (by decide) (Nat.le_of_ble_eq_true rfl) ?_
    have b8 : (v5 - v7 : Int32).toInt = (v5.toInt - v7.toInt) := mz_sub2 rfl rfl (by have := yR.1 15 _ _ rfl; have := yR.1 16 _ _ rfl; have := yR.1 19 _ _ rfl; omega) (by have := yR.1 15 _ _ rfl; have := yR.1 16 _ _ rfl; have := yR.1 19 _ _ rfl; omega)
    have := mz_hi (v5 - v7)
    refine mv_icmp_eqZ (tgt := 26) (a := (v5 - v7).toInt) (b := 4) d_TrustDeskModel_isWord_21 (by decide) rfl (by decide) (fun b9 => ?_) (fun b9 => ?_)
    · refine mv_iconst (v := 0) d_TrustDeskModel_isWord_26 (by decide) ?_
      refine mv_istore_n (lv' := [(2, .int 0), (0, .ref o0), (1, .ref 21)]) d_TrustDeskModel_isWord_27 rfl (by decide) rfl ?_
      refine mv_iload_n d_TrustDeskModel_isWord_28 rfl rfl ?_
      refine mv_aload_n d_TrustDeskModel_isWord_29 rfl rfl ?_
      refine mv_slenK (i := 11) (v := 4) d_TrustDeskModel_isWord_30 lV_TrustDeskModel_214 (by decide) rfl (by decide) (Nat.le_of_ble_eq_true rfl) ?_
      refine mv_icmp_ge_f (tgt := 63) d_TrustDeskModel_isWord_33 (by decide) (by decide) ?_
      refine mv_aload_n d_TrustDeskModel_isWord_36 rfl rfl ?_
      obtain ⟨a11, q10, t_a11⟩ := tm_atR I0 h_o0 (k := 13) rfl
      refine tr_getK q10 d_TrustDeskModel_isWord_37 f_TrustDeskModel_44_13 ?_
      refine mv_aload_n d_TrustDeskModel_isWord_40 rfl rfl ?_
      refine tr_getK (k := 16) q6 d_TrustDeskModel_isWord_41 f_TrustDeskModel_195_13 ?_
      refine mv_iload_n d_TrustDeskModel_isWord_44 rfl rfl ?_
      refine mv_iadd d_TrustDeskModel_isWord_45 ?_
      have b12 : (v7 + 0 : Int32).toInt = (v7.toInt + 0) := mz_add2 rfl (by decide) (by have := yR.1 15 _ _ rfl; have := yR.1 16 _ _ rfl; have := yR.1 19 _ _ rfl; omega) (by have := yR.1 15 _ _ rfl; have := yR.1 16 _ _ rfl; have := yR.1 19 _ _ rfl; omega)
      refine tr_baldR (o := o0) (k := 13) I0 q10 t_a11 (by decide) d_TrustDeskModel_isWord_46 (vp_in_iff.mpr (by have := yR.1 15 _ _ rfl; have := yR.1 16 _ _ rfl; have := yR.1 19 _ _ rfl; omega)) (fun v13 e14 => ?_)
      have := yR.a (k := 13) rfl ((v7 + 0) : Int32).toNatClampNeg
      have h15 : (v7 + 0).toNatClampNeg = (rv M0 o0 16).toNat + 0 := by have := mz_nat9 (i := (v7 + 0)) (by have := yR.1 15 _ _ rfl; have := yR.1 16 _ _ rfl; have := yR.1 19 _ _ rfl; omega); have := yR.1 15 _ _ rfl; have := yR.1 16 _ _ rfl; have := yR.1 19 _ _ rfl; omega
      have : v13.toInt = ra M0 o0 13 ((rv M0 o0 16).toNat + 0) := by rw [e14, h15]
      refine mv_aload_n d_TrustDeskModel_isWord_47 rfl rfl ?_
      refine mv_iload_n d_TrustDeskModel_isWord_48 rfl rfl ?_
      refine mv_schC (i := 11) (v := 110) d_TrustDeskModel_isWord_49 lV_TrustDeskModel_220 (by decide) rfl (by decide) (by decide) (Nat.le_of_ble_eq_true rfl) (by decide) ?_
      have := mz_hi v13
      refine mv_icmp_eqZ (tgt := 57) (a := v13.toInt) (b := 110) d_TrustDeskModel_isWord_52 (by decide) rfl (by decide) (fun b16 => ?_) (fun b16 => ?_)
      · refine mv_iinc (v := 1) (lv' := [(2, .int 1), (0, .ref o0), (1, .ref 21)]) d_TrustDeskModel_isWord_57 rfl (by decide) (by decide) rfl ?_
        refine mv_goto (tgt := 28) d_TrustDeskModel_isWord_60 (by decide) ?_
        refine mv_iload_n d_TrustDeskModel_isWord_28 rfl rfl ?_
        refine mv_aload_n d_TrustDeskModel_isWord_29 rfl rfl ?_
        refine mv_slenK (i := 11) (v := 4) d_TrustDeskModel_isWord_30 lV_TrustDeskModel_214 (by decide) rfl (by decide) (Nat.le_of_ble_eq_true rfl) ?_
        refine mv_icmp_ge_f (tgt := 63) d_TrustDeskModel_isWord_33 (by decide) (by decide) ?_
        refine mv_aload_n d_TrustDeskModel_isWord_36 rfl rfl ?_
        refine tr_getK (k := 13) q10 d_TrustDeskModel_isWord_37 f_TrustDeskModel_44_13 ?_
        refine mv_aload_n d_TrustDeskModel_isWord_40 rfl rfl ?_
        refine tr_getK (k := 16) q6 d_TrustDeskModel_isWord_41 f_TrustDeskModel_195_13 ?_
        refine mv_iload_n d_TrustDeskModel_isWord_44 rfl rfl ?_
        refine mv_iadd d_TrustDeskModel_isWord_45 ?_
        have b17 : (v7 + 1 : Int32).toInt = (v7.toInt + 1) := mz_add2 rfl (by decide) (by have := yR.1 15 _ _ rfl; have := yR.1 16 _ _ rfl; have := yR.1 19 _ _ rfl; omega) (by have := yR.1 15 _ _ rfl; have := yR.1 16 _ _ rfl; have := yR.1 19 _ _ rfl; omega)
        refine tr_baldR (o := o0) (k := 13) I0 q10 t_a11 (by decide) d_TrustDeskModel_isWord_46 (vp_in_iff.mpr (by have := yR.1 15 _ _ rfl; have := yR.1 16 _ _ rfl; have := yR.1 19 _ _ rfl; omega)) (fun v18 e19 => ?_)
        have := yR.a (k := 13) rfl ((v7 + 1) : Int32).toNatClampNeg
        have h20 : (v7 + 1).toNatClampNeg = (rv M0 o0 16).toNat + 1 := by have := mz_nat9 (i := (v7 + 1)) (by have := yR.1 15 _ _ rfl; have := yR.1 16 _ _ rfl; have := yR.1 19 _ _ rfl; omega); have := yR.1 15 _ _ rfl; have := yR.1 16 _ _ rfl; have := yR.1 19 _ _ rfl; omega
        have : v18.toInt = ra M0 o0 13 ((rv M0 o0 16).toNat + 1) := by rw [e19, h20]
        refine mv_aload_n d_TrustDeskModel_isWord_47 rfl rfl ?_
        refine mv_iload_n d_TrustDeskModel_isWord_48 rfl rfl ?_
        refine mv_schC (i := 11) (v := 101) d_TrustDeskModel_isWord_49 lV_TrustDeskModel_220 (by decide) rfl (by decide) (by decide) (Nat.le_of_ble_eq_true rfl) (by decide) ?_
        have := mz_hi v18
        refine mv_icmp_eqZ (tgt := 57) (a := v18.toInt) (b := 101) d_TrustDeskModel_isWord_52 (by decide) rfl (by decide) (fun b21 => ?_) (fun b21 => ?_)
        · refine mv_iinc (v := 2) (lv' := [(2, .int 2), (0, .ref o0), (1, .ref 21)]) d_TrustDeskModel_isWord_57 rfl (by decide) (by decide) rfl ?_
          refine mv_goto (tgt := 28) d_TrustDeskModel_isWord_60 (by decide) ?_
          refine mv_iload_n d_TrustDeskModel_isWord_28 rfl rfl ?_
          refine mv_aload_n d_TrustDeskModel_isWord_29 rfl rfl ?_
          refine mv_slenK (i := 11) (v := 4) d_TrustDeskModel_isWord_30 lV_TrustDeskModel_214 (by decide) rfl (by decide) (Nat.le_of_ble_eq_true rfl) ?_
          refine mv_icmp_ge_f (tgt := 63) d_TrustDeskModel_isWord_33 (by decide) (by decide) ?_
          refine mv_aload_n d_TrustDeskModel_isWord_36 rfl rfl ?_
          refine tr_getK (k := 13) q10 d_TrustDeskModel_isWord_37 f_TrustDeskModel_44_13 ?_
          refine mv_aload_n d_TrustDeskModel_isWord_40 rfl rfl ?_
          refine tr_getK (k := 16) q6 d_TrustDeskModel_isWord_41 f_TrustDeskModel_195_13 ?_
          refine mv_iload_n d_TrustDeskModel_isWord_44 rfl rfl ?_
          refine mv_iadd d_TrustDeskModel_isWord_45 ?_
          have b22 : (v7 + 2 : Int32).toInt = (v7.toInt + 2) := mz_add2 rfl (by decide) (by have := yR.1 15 _ _ rfl; have := yR.1 16 _ _ rfl; have := yR.1 19 _ _ rfl; omega) (by have := yR.1 15 _ _ rfl; have := yR.1 16 _ _ rfl; have := yR.1 19 _ _ rfl; omega)
          refine tr_baldR (o := o0) (k := 13) I0 q10 t_a11 (by decide) d_TrustDeskModel_isWord_46 (vp_in_iff.mpr (by have := yR.1 15 _ _ rfl; have := yR.1 16 _ _ rfl; have := yR.1 19 _ _ rfl; omega)) (fun v23 e24 => ?_)
          have := yR.a (k := 13) rfl ((v7 + 2) : Int32).toNatClampNeg
          have h25 : (v7 + 2).toNatClampNeg = (rv M0 o0 16).toNat + 2 := by have := mz_nat9 (i := (v7 + 2)) (by have := yR.1 15 _ _ rfl; have := yR.1 16 _ _ rfl; have := yR.1 19 _ _ rfl; omega); have := yR.1 15 _ _ rfl; have := yR.1 16 _ _ rfl; have := yR.1 19 _ _ rfl; omega
          have : v23.toInt = ra M0 o0 13 ((rv M0 o0 16).toNat + 2) := by rw [e24, h25]
          refine mv_aload_n d_TrustDeskModel_isWord_47 rfl rfl ?_
          refine mv_iload_n d_TrustDeskModel_isWord_48 rfl rfl ?_
          refine mv_schC (i := 11) (v := 97) d_TrustDeskModel_isWord_49 lV_TrustDeskModel_220 (by decide) rfl (by decide) (by decide) (Nat.le_of_ble_eq_true rfl) (by decide) ?_
          have := mz_hi v23
          refine mv_icmp_eqZ (tgt := 57) (a := v23.toInt) (b := 97) d_TrustDeskModel_isWord_52 (by decide) rfl (by decide) (fun b26 => ?_) (fun b26 => ?_)
          · refine mv_iinc (v := 3) (lv' := [(2, .int 3), (0, .ref o0), (1, .ref 21)]) d_TrustDeskModel_isWord_57 rfl (by decide) (by decide) rfl ?_
            refine mv_goto (tgt := 28) d_TrustDeskModel_isWord_60 (by decide) ?_
            refine mv_iload_n d_TrustDeskModel_isWord_28 rfl rfl ?_
            refine mv_aload_n d_TrustDeskModel_isWord_29 rfl rfl ?_
            refine mv_slenK (i := 11) (v := 4) d_TrustDeskModel_isWord_30 lV_TrustDeskModel_214 (by decide) rfl (by decide) (Nat.le_of_ble_eq_true rfl) ?_
            refine mv_icmp_ge_f (tgt := 63) d_TrustDeskModel_isWord_33 (by decide) (by decide) ?_
            refine mv_aload_n d_TrustDeskModel_isWord_36 rfl rfl ?_
            refine tr_getK (k := 13) q10 d_TrustDeskModel_isWord_37 f_TrustDeskModel_44_13 ?_
            refine mv_aload_n d_TrustDeskModel_isWord_40 rfl rfl ?_
            refine tr_getK (k := 16) q6 d_TrustDeskModel_isWord_41 f_TrustDeskModel_195_13 ?_
            refine mv_iload_n d_TrustDeskModel_isWord_44 rfl rfl ?_
            refine mv_iadd d_TrustDeskModel_isWord_45 ?_
            have b27 : (v7 + 3 : Int32).toInt = (v7.toInt + 3) := mz_add2 rfl (by decide) (by have := yR.1 15 _ _ rfl; have := yR.1 16 _ _ rfl; have := yR.1 19 _ _ rfl; omega) (by have := yR.1 15 _ _ rfl; have := yR.1 16 _ _ rfl; have := yR.1 19 _ _ rfl; omega)
            refine tr_baldR (o := o0) (k := 13) I0 q10 t_a11 (by decide) d_TrustDeskModel_isWord_46 (vp_in_iff.mpr (by have := yR.1 15 _ _ rfl; have := yR.1 16 _ _ rfl; have := yR.1 19 _ _ rfl; omega)) (fun v28 e29 => ?_)
            have := yR.a (k := 13) rfl ((v7 + 3) : Int32).toNatClampNeg
            have h30 : (v7 + 3).toNatClampNeg = (rv M0 o0 16).toNat + 3 := by have := mz_nat9 (i := (v7 + 3)) (by have := yR.1 15 _ _ rfl; have := yR.1 16 _ _ rfl; have := yR.1 19 _ _ rfl; omega); have := yR.1 15 _ _ rfl; have := yR.1 16 _ _ rfl; have := yR.1 19 _ _ rfl; omega
            have : v28.toInt = ra M0 o0 13 ((rv M0 o0 16).toNat + 3) := by rw [e29, h30]
            refine mv_aload_n d_TrustDeskModel_isWord_47 rfl rfl ?_
            refine mv_iload_n d_TrustDeskModel_isWord_48 rfl rfl ?_
            refine mv_schC (i := 11) (v := 114) d_TrustDeskModel_isWord_49 lV_TrustDeskModel_220 (by decide) rfl (by decide) (by decide) (Nat.le_of_ble_eq_true rfl) (by decide) ?_
            have := mz_hi v28
            refine mv_icmp_eqZ (tgt := 57) (a := v28.toInt) (b := 114) d_TrustDeskModel_isWord_52 (by decide) rfl (by decide) (fun b31 => ?_) (fun b31 => ?_)
            · refine mv_iinc (v := 4) (lv' := [(2, .int 4), (0, .ref o0), (1, .ref 21)]) d_TrustDeskModel_isWord_57 rfl (by decide) (by decide) rfl ?_
              refine mv_goto (tgt := 28) d_TrustDeskModel_isWord_60 (by decide) ?_
              refine mv_iload_n d_TrustDeskModel_isWord_28 rfl rfl ?_
              refine mv_aload_n d_TrustDeskModel_isWord_29 rfl rfl ?_
              refine mv_slenK (i := 11) (v := 4) d_TrustDeskModel_isWord_30 lV_TrustDeskModel_214 (by decide) rfl (by decide) (Nat.le_of_ble_eq_true rfl) ?_
              refine mv_icmp_ge_t (tgt := 63) d_TrustDeskModel_isWord_33 (by decide) (by decide) ?_
              refine mv_iconst (v := 1) d_TrustDeskModel_isWord_63 (by decide) ?_
              exact mv_iret d_TrustDeskModel_isWord_64 rfl (by decide) ⟨_, I0, _, rfl, by decide, by decide, yR, (fun _ => by have := yR.1 15 _ _ rfl; have := yR.1 16 _ _ rfl; have := yR.1 19 _ _ rfl; omega), (fun _ => ⟨by have := yR.1 15 _ _ rfl; have := yR.1 16 _ _ rfl; have := yR.1 19 _ _ rfl; omega, by have := yR.1 15 _ _ rfl; have := yR.1 16 _ _ rfl; have := yR.1 19 _ _ rfl; omega, by have := yR.1 15 _ _ rfl; have := yR.1 16 _ _ rfl; have := yR.1 19 _ _ rfl; omega, by have := yR.1 15 _ _ rfl; have := yR.1 16 _ _ rfl; have := yR.1 19 _ _ rfl; omega, by have := yR.1 15 _ _ rfl; have := yR.1 16 _ _ rfl; have := yR.1 19 _ _ rfl; omega, by have := yR.1 15 _ _ rfl; have := yR.1 16 _ _ rfl; have := yR.1 19 _ _ rfl; omega⟩), (fun h => absurd h (by decide))⟩
            · refine mv_iconst (v := 0) d_TrustDeskModel_isWord_55 (by decide) ?_
              exact mv_iret d_TrustDeskModel_isWord_56 rfl (by decide) ⟨_, I0, _, rfl, by decide, by decide, yR, (fun h => absurd h (by decide)), (fun h => absurd h (by decide)), (fun _ h => by obtain ⟨h1, h2, h3, h4, h5, h6⟩ := h; have := yR.1 15 _ _ rfl; have := yR.1 16 _ _ rfl; have := yR.1 19 _ _ rfl; omega)⟩
          · refine mv_iconst (v := 0) d_TrustDeskModel_isWord_55 (by decide) ?_
            exact mv_iret d_TrustDeskModel_isWord_56 rfl (by decide) ⟨_, I0, _, rfl, by decide, by decide, yR, (fun h => absurd h (by decide)), (fun h => absurd h (by decide)), (fun _ h => by obtain ⟨h1, h2, h3, h4, h5, h6⟩ := h; have := yR.1 15 _ _ rfl; have := yR.1 16 _ _ rfl; have := yR.1 19 _ _ rfl; omega)⟩
        · refine mv_iconst (v := 0) d_TrustDeskModel_isWord_55 (by decide) ?_
          exact mv_iret d_TrustDeskModel_isWord_56 rfl (by decide) ⟨_, I0, _, rfl, by decide, by decide, yR, (fun h => absurd h (by decide)), (fun h => absurd h (by decide)), (fun _ h => by obtain ⟨h1, h2, h3, h4, h5, h6⟩ := h; have := yR.1 15 _ _ rfl; have := yR.1 16 _ _ rfl; have := yR.1 19 _ _ rfl; omega)⟩
      · refine mv_iconst (v := 0) d_TrustDeskModel_isWord_55 (by decide) ?_
        exact mv_iret d_TrustDeskModel_isWord_56 rfl (by decide) ⟨_, I0, _, rfl, by decide, by decide, yR, (fun h => absurd h (by decide)), (fun h => absurd h (by decide)), (fun _ h => by obtain ⟨h1, h2, h3, h4, h5, h6⟩ := h; have := yR.1 15 _ _ rfl; have := yR.1 16 _ _ rfl; have := yR.1 19 _ _ rfl; omega)⟩
    · refine mv_iconst (v := 0) d_TrustDeskModel_isWord_24 (by decide) ?_
      exact mv_iret d_TrustDeskModel_isWord_25 rfl (by decide) ⟨_, I0, _, rfl, by decide, by decide, yR, (fun h => absurd h (by decide)), (fun h => absurd h (by decide)), (fun _ h => by obtain ⟨h1, h2, h3, h4, h5, h6⟩ := h; have := yR.1 15 _ _ rfl; have := yR.1 16 _ _ rfl; have := yR.1 19 _ _ rfl; omega)⟩
theorem d_TrustDeskModel_readRule_67 : decode kY_TrustDeskModel_readRule.2.1 67 = .ok (.ifCond .eq 7, 3) := by decide +kernel
theorem d_TrustDeskModel_readRule_74 : decode kY_TrustDeskModel_readRule.2.1 74 = .ok (.aload_n 0, 1) := by decide +kernel
theorem d_TrustDeskModel_readRule_75 : decode kY_TrustDeskModel_readRule.2.1 75 = .ok (.ldc_w 370, 3) := by decide +kernel
theorem d_TrustDeskModel_readRule_78 : decode kY_TrustDeskModel_readRule.2.1 78 = .ok (.invokevirtual 244, 3) := by decide +kernel
def w_TrustDeskModel_isWord_s1_22_x : List Nat := []
set_option maxHeartbeats 100000000 in theorem tc_TrustDeskModel_isWord_s1_22_x {g : mj_G} {l : Launch} {d : Nat} {T0 : tm_H} {M0 : mj_M} {n0 x9 : Nat} {o0 : Nat} (h_o0 : T0 o0 = some (0, 13, 0)) (yR : rI M0 o0) (I0 : tm_I tm_FT (tm_in w_TrustDeskModel_isWord_s1_22_x) x9 T0 M0 n0 T0 M0 n0) : mj_Met g l kY_TrustDeskModel_isWord (d + 4) [.ref o0, .ref 22] M0 n0 0 0 (tm_Q tm_FT (tm_in w_TrustDeskModel_isWord_s1_22_x) x9 T0 M0 n0 (fun r _ M => ∃ v : Int32, r = some (.int v) ∧ 0 ≤ v.toInt ∧ v.toInt ≤ 1 ∧ rI M o0 ∧ (v.toInt = 1 → rv M0 o0 17 = 3) ∧ (v.toInt = 1 → rv M0 o0 17 = 3 ∧ rv M0 o0 15 - rv M0 o0 16 = 4 ∧ ra M0 o0 13 ((rv M0 o0 16).toNat + 0) = 106 ∧ ra M0 o0 13 ((rv M0 o0 16).toNat + 1) = 111 ∧ ra M0 o0 13 ((rv M0 o0 16).toNat + 2) = 105 ∧ ra M0 o0 13 ((rv M0 o0 16).toNat + 3) = 110) ∧ (v.toInt = 0 → ¬ (rv M0 o0 17 = 3 ∧ rv M0 o0 15 - rv M0 o0 16 = 4 ∧ ra M0 o0 13 ((rv M0 o0 16).toNat + 0) = 106 ∧ ra M0 o0 13 ((rv M0 o0 16).toNat + 1) = 111 ∧ ra M0 o0 13 ((rv M0 o0 16).toNat + 2) = 105 ∧ ra M0 o0 13 ((rv M0 o0 16).toNat + 3) = 110)))) := by
  refine mj_enter (by decide) (Nat.le_of_ble_eq_true rfl) ?_
  refine mv_aload_n d_TrustDeskModel_isWord_0 rfl rfl ?_
  obtain ⟨v2, q1⟩ := tm_atI I0 h_o0 (k := 17) rfl
  refine tr_getK q1 d_TrustDeskModel_isWord_1 f_TrustDeskModel_198_13 ?_
  have := tm_rv q1
  refine mv_iconst (v := 3) d_TrustDeskModel_isWord_4 (by decide) ?_
  have := mz_hi v2
  refine mv_icmp_neZ (tgt := 24) (a := v2.toInt) (b := 3) d_TrustDeskModel_isWord_5 (by decide) rfl (by decide) (fun b3 => ?_) (fun b3 => ?_)
  · refine mv_iconst (v := 0) d_TrustDeskModel_isWord_24 (by decide) ?_
    exact mv_iret d_TrustDeskModel_isWord_25 rfl (by decide) ⟨_, I0, _, rfl, by decide, by decide, yR, (fun h => absurd h (by decide)), (fun h => absurd h (by decide)), (fun _ h => by obtain ⟨h1, h2, h3, h4, h5, h6⟩ := h; have := yR.1 15 _ _ rfl; have := yR.1 16 _ _ rfl; have := yR.1 19 _ _ rfl; omega)⟩
  · refine mv_aload_n d_TrustDeskModel_isWord_8 rfl rfl ?_
    obtain ⟨v5, q4⟩ := tm_atI I0 h_o0 (k := 15) rfl
    refine tr_getK q4 d_TrustDeskModel_isWord_9 f_TrustDeskModel_192_13 ?_
    have := yR.f (k := 15) q4 rfl
    have := tm_rv q4
    refine mv_aload_n d_TrustDeskModel_isWord_12 rfl rfl ?_
    obtain ⟨v7, q6⟩ := tm_atI I0 h_o0 (k := 16) rfl
    refine tr_getK q6 d_TrustDeskModel_isWord_13 f_TrustDeskModel_195_13 ?_
    have := yR.f (k := 16) q6 rfl
    have := tm_rv q6
    refine mv_isub d_TrustDeskModel_isWord_16 ?_
    refine mv_aload_n d_TrustDeskModel_isWord_17 rfl rfl ?_
    refine mv_slenK (i := 12) (v := 4) d_TrustDeskModel_isWord_18 lV_TrustDeskModel_214 (by decide) rfl (by decide) (Nat.le_of_ble_eq_true rfl) ?_
    have b8 : (v5 - v7 : Int32).toInt = (v5.toInt - v7.toInt) := mz_sub2 rfl rfl (by have := yR.1 15 _ _ rfl; have := yR.1 16 _ _ rfl; have := yR.1 19 _ _ rfl; omega) (by have := yR.1 15 _ _ rfl; have := yR.1 16 _ _ rfl; have := yR.1 19 _ _ rfl; omega)
    have := mz_hi (v5 - v7)
    refine mv_icmp_eqZ (tgt := 26) (a := (v5 - v7).toInt) (b := 4) d_TrustDeskModel_isWord_21 (by decide) rfl (by decide) (fun b9 => ?_) (fun b9 => ?_)
    · refine mv_iconst (v := 0) d_TrustDeskModel_isWord_26 (by decide) ?_
      refine mv_istore_n (lv' := [(2, .int 0), (0, .ref o0), (1, .ref 22)]) d_TrustDeskModel_isWord_27 rfl (by decide) rfl ?_
      refine mv_iload_n d_TrustDeskModel_isWord_28 rfl rfl ?_
      refine mv_aload_n d_TrustDeskModel_isWord_29 rfl rfl ?_
      refine mv_slenK (i := 12) (v := 4) d_TrustDeskModel_isWord_30 lV_TrustDeskModel_214 (by decide) rfl (by decide) (Nat.le_of_ble_eq_true rfl) ?_
      refine mv_icmp_ge_f (tgt := 63) d_TrustDeskModel_isWord_33 (by decide) (by decide) ?_
      refine mv_aload_n d_TrustDeskModel_isWord_36 rfl rfl ?_
      obtain ⟨a11, q10, t_a11⟩ := tm_atR I0 h_o0 (k := 13) rfl
      refine tr_getK q10 d_TrustDeskModel_isWord_37 f_TrustDeskModel_44_13 ?_
      refine mv_aload_n d_TrustDeskModel_isWord_40 rfl rfl ?_
      refine tr_getK (k := 16) q6 d_TrustDeskModel_isWord_41 f_TrustDeskModel_195_13 ?_
      refine mv_iload_n d_TrustDeskModel_isWord_44 rfl rfl ?_
      refine mv_iadd d_TrustDeskModel_isWord_45 ?_
      have b12 : (v7 + 0 : Int32).toInt = (v7.toInt + 0) := mz_add2 rfl (by decide) (by have := yR.1 15 _ _ rfl; have := yR.1 16 _ _ rfl; have := yR.1 19 _ _ rfl; omega) (by have := yR.1 15 _ _ rfl; have := yR.1 16 _ _ rfl; have := yR.1 19 _ _ rfl; omega)
      refine tr_baldR (o := o0) (k := 13) I0 q10 t_a11 (by decide) d_TrustDeskModel_isWord_46 (vp_in_iff.mpr (by have := yR.1 15 _ _ rfl; have := yR.1 16 _ _ rfl; have := yR.1 19 _ _ rfl; omega)) (fun v13 e14 => ?_)
      have := yR.a (k := 13) rfl ((v7 + 0) : Int32).toNatClampNeg
      have h15 : (v7 + 0).toNatClampNeg = (rv M0 o0 16).toNat + 0 := by have := mz_nat9 (i := (v7 + 0)) (by have := yR.1 15 _ _ rfl; have := yR.1 16 _ _ rfl; have := yR.1 19 _ _ rfl; omega); have := yR.1 15 _ _ rfl; have := yR.1 16 _ _ rfl; have := yR.1 19 _ _ rfl; omega
      have : v13.toInt = ra M0 o0 13 ((rv M0 o0 16).toNat + 0) := by rw [e14, h15]
      refine mv_aload_n d_TrustDeskModel_isWord_47 rfl rfl ?_
      refine mv_iload_n d_TrustDeskModel_isWord_48 rfl rfl ?_
      refine mv_schC (i := 12) (v := 106) d_TrustDeskModel_isWord_49 lV_TrustDeskModel_220 (by decide) rfl (by decide) (by decide) (Nat.le_of_ble_eq_true rfl) (by decide) ?_
      have := mz_hi v13
      refine mv_icmp_eqZ (tgt := 57) (a := v13.toInt) (b := 106) d_TrustDeskModel_isWord_52 (by decide) rfl (by decide) (fun b16 => ?_) (fun b16 => ?_)
      · refine mv_iinc (v := 1) (lv' := [(2, .int 1), (0, .ref o0), (1, .ref 22)]) d_TrustDeskModel_isWord_57 rfl (by decide) (by decide) rfl ?_
        refine mv_goto (tgt := 28) d_TrustDeskModel_isWord_60 (by decide) ?_
        refine mv_iload_n d_TrustDeskModel_isWord_28 rfl rfl ?_
        refine mv_aload_n d_TrustDeskModel_isWord_29 rfl rfl ?_
        refine mv_slenK (i := 12) (v := 4) d_TrustDeskModel_isWord_30 lV_TrustDeskModel_214 (by decide) rfl (by decide) (Nat.le_of_ble_eq_true rfl) ?_
        refine mv_icmp_ge_f (tgt := 63) d_TrustDeskModel_isWord_33 (by decide) (by decide) ?_
        refine mv_aload_n d_TrustDeskModel_isWord_36 rfl rfl ?_
        refine tr_getK (k := 13) q10 d_TrustDeskModel_isWord_37 f_TrustDeskModel_44_13 ?_
        refine mv_aload_n d_TrustDeskModel_isWord_40 rfl rfl ?_
        refine tr_getK (k := 16) q6 d_TrustDeskModel_isWord_41 f_TrustDeskModel_195_13 ?_
        refine mv_iload_n d_TrustDeskModel_isWord_44 rfl rfl ?_
        refine mv_iadd d_TrustDeskModel_isWord_45 ?_
        have b17 : (v7 + 1 : Int32).toInt = (v7.toInt + 1) := mz_add2 rfl (by decide) (by have := yR.1 15 _ _ rfl; have := yR.1 16 _ _ rfl; have := yR.1 19 _ _ rfl; omega) (by have := yR.1 15 _ _ rfl; have := yR.1 16 _ _ rfl; have := yR.1 19 _ _ rfl; omega)
        refine tr_baldR (o := o0) (k := 13) I0 q10 t_a11 (by decide) d_TrustDeskModel_isWord_46 (vp_in_iff.mpr (by have := yR.1 15 _ _ rfl; have := yR.1 16 _ _ rfl; have := yR.1 19 _ _ rfl; omega)) (fun v18 e19 => ?_)
        have := yR.a (k := 13) rfl ((v7 + 1) : Int32).toNatClampNeg
        have h20 : (v7 + 1).toNatClampNeg = (rv M0 o0 16).toNat + 1 := by have := mz_nat9 (i := (v7 + 1)) (by have := yR.1 15 _ _ rfl; have := yR.1 16 _ _ rfl; have := yR.1 19 _ _ rfl; omega); have := yR.1 15 _ _ rfl; have := yR.1 16 _ _ rfl; have := yR.1 19 _ _ rfl; omega
        have : v18.toInt = ra M0 o0 13 ((rv M0 o0 16).toNat + 1) := by rw [e19, h20]
        refine mv_aload_n d_TrustDeskModel_isWord_47 rfl rfl ?_
        refine mv_iload_n d_TrustDeskModel_isWord_48 rfl rfl ?_
        refine mv_schC (i := 12) (v := 111) d_TrustDeskModel_isWord_49 lV_TrustDeskModel_220 (by decide) rfl (by decide) (by decide) (Nat.le_of_ble_eq_true rfl) (by decide) ?_
        have := mz_hi v18
        refine mv_icmp_eqZ (tgt := 57) (a := v18.toInt) (b := 111) d_TrustDeskModel_isWord_52 (by decide) rfl (by decide) (fun b21 => ?_) (fun b21 => ?_)
        · refine mv_iinc (v := 2) (lv' := [(2, .int 2), (0, .ref o0), (1, .ref 22)]) d_TrustDeskModel_isWord_57 rfl (by decide) (by decide) rfl ?_
          refine mv_goto (tgt := 28) d_TrustDeskModel_isWord_60 (by decide) ?_
          refine mv_iload_n d_TrustDeskModel_isWord_28 rfl rfl ?_
          refine mv_aload_n d_TrustDeskModel_isWord_29 rfl rfl ?_
          refine mv_slenK (i := 12) (v := 4) d_TrustDeskModel_isWord_30 lV_TrustDeskModel_214 (by decide) rfl (by decide) (Nat.le_of_ble_eq_true rfl) ?_
          refine mv_icmp_ge_f (tgt := 63) d_TrustDeskModel_isWord_33 (by decide) (by decide) ?_
          refine mv_aload_n d_TrustDeskModel_isWord_36 rfl rfl ?_
          refine tr_getK (k := 13) q10 d_TrustDeskModel_isWord_37 f_TrustDeskModel_44_13 ?_
          refine mv_aload_n d_TrustDeskModel_isWord_40 rfl rfl ?_
          refine tr_getK (k := 16) q6 d_TrustDeskModel_isWord_41 f_TrustDeskModel_195_13 ?_
          refine mv_iload_n d_TrustDeskModel_isWord_44 rfl rfl ?_
          refine mv_iadd d_TrustDeskModel_isWord_45 ?_
          have b22 : (v7 + 2 : Int32).toInt = (v7.toInt + 2) := mz_add2 rfl (by decide) (by have := yR.1 15 _ _ rfl; have := yR.1 16 _ _ rfl; have := yR.1 19 _ _ rfl; omega) (by have := yR.1 15 _ _ rfl; have := yR.1 16 _ _ rfl; have := yR.1 19 _ _ rfl; omega)
          refine tr_baldR (o := o0) (k := 13) I0 q10 t_a11 (by decide) d_TrustDeskModel_isWord_46 (vp_in_iff.mpr (by have := yR.1 15 _ _ rfl; have := yR.1 16 _ _ rfl; have := yR.1 19 _ _ rfl; omega)) (fun v23 e24 => ?_)
          have := yR.a (k := 13) rfl ((v7 + 2) : Int32).toNatClampNeg
          have h25 : (v7 + 2).toNatClampNeg = (rv M0 o0 16).toNat + 2 := by have := mz_nat9 (i := (v7 + 2)) (by have := yR.1 15 _ _ rfl; have := yR.1 16 _ _ rfl; have := yR.1 19 _ _ rfl; omega); have := yR.1 15 _ _ rfl; have := yR.1 16 _ _ rfl; have := yR.1 19 _ _ rfl; omega
          have : v23.toInt = ra M0 o0 13 ((rv M0 o0 16).toNat + 2) := by rw [e24, h25]
          refine mv_aload_n d_TrustDeskModel_isWord_47 rfl rfl ?_
          refine mv_iload_n d_TrustDeskModel_isWord_48 rfl rfl ?_
          refine mv_schC (i := 12) (v := 105) d_TrustDeskModel_isWord_49 lV_TrustDeskModel_220 (by decide) rfl (by decide) (by decide) (Nat.le_of_ble_eq_true rfl) (by decide) ?_
          have := mz_hi v23
          refine mv_icmp_eqZ (tgt := 57) (a := v23.toInt) (b := 105) d_TrustDeskModel_isWord_52 (by decide) rfl (by decide) (fun b26 => ?_) (fun b26 => ?_)
          · refine mv_iinc (v := 3) (lv' := [(2, .int 3), (0, .ref o0), (1, .ref 22)]) d_TrustDeskModel_isWord_57 rfl (by decide) (by decide) rfl ?_
            refine mv_goto (tgt := 28) d_TrustDeskModel_isWord_60 (by decide) ?_
            refine mv_iload_n d_TrustDeskModel_isWord_28 rfl rfl ?_
            refine mv_aload_n d_TrustDeskModel_isWord_29 rfl rfl ?_
            refine mv_slenK (i := 12) (v := 4) d_TrustDeskModel_isWord_30 lV_TrustDeskModel_214 (by decide) rfl (by decide) (Nat.le_of_ble_eq_true rfl) ?_
            refine mv_icmp_ge_f (tgt := 63) d_TrustDeskModel_isWord_33 (by decide) (by decide) ?_
            refine mv_aload_n d_TrustDeskModel_isWord_36 rfl rfl ?_
            refine tr_getK (k := 13) q10 d_TrustDeskModel_isWord_37 f_TrustDeskModel_44_13 ?_
            refine mv_aload_n d_TrustDeskModel_isWord_40 rfl rfl ?_
            refine tr_getK (k := 16) q6 d_TrustDeskModel_isWord_41 f_TrustDeskModel_195_13 ?_
            refine mv_iload_n d_TrustDeskModel_isWord_44 rfl rfl ?_
            refine mv_iadd d_TrustDeskModel_isWord_45 ?_
            have b27 : (v7 + 3 : Int32).toInt = (v7.toInt + 3) := mz_add2 rfl (by decide) (by have := yR.1 15 _ _ rfl; have := yR.1 16 _ _ rfl; have := yR.1 19 _ _ rfl; omega) (by have := yR.1 15 _ _ rfl; have := yR.1 16 _ _ rfl; have := yR.1 19 _ _ rfl; omega)
            refine tr_baldR (o := o0) (k := 13) I0 q10 t_a11 (by decide) d_TrustDeskModel_isWord_46 (vp_in_iff.mpr (by have := yR.1 15 _ _ rfl; have := yR.1 16 _ _ rfl; have := yR.1 19 _ _ rfl; omega)) (fun v28 e29 => ?_)
            have := yR.a (k := 13) rfl ((v7 + 3) : Int32).toNatClampNeg
            have h30 : (v7 + 3).toNatClampNeg = (rv M0 o0 16).toNat + 3 := by have := mz_nat9 (i := (v7 + 3)) (by have := yR.1 15 _ _ rfl; have := yR.1 16 _ _ rfl; have := yR.1 19 _ _ rfl; omega); have := yR.1 15 _ _ rfl; have := yR.1 16 _ _ rfl; have := yR.1 19 _ _ rfl; omega
            have : v28.toInt = ra M0 o0 13 ((rv M0 o0 16).toNat + 3) := by rw [e29, h30]
            refine mv_aload_n d_TrustDeskModel_isWord_47 rfl rfl ?_
            refine mv_iload_n d_TrustDeskModel_isWord_48 rfl rfl ?_
            refine mv_schC (i := 12) (v := 110) d_TrustDeskModel_isWord_49 lV_TrustDeskModel_220 (by decide) rfl (by decide) (by decide) (Nat.le_of_ble_eq_true rfl) (by decide) ?_
            have := mz_hi v28
            refine mv_icmp_eqZ (tgt := 57) (a := v28.toInt) (b := 110) d_TrustDeskModel_isWord_52 (by decide) rfl (by decide) (fun b31 => ?_) (fun b31 => ?_)
            · refine mv_iinc (v := 4) (lv' := [(2, .int 4), (0, .ref o0), (1, .ref 22)]) d_TrustDeskModel_isWord_57 rfl (by decide) (by decide) rfl ?_
              refine mv_goto (tgt := 28) d_TrustDeskModel_isWord_60 (by decide) ?_
              refine mv_iload_n d_TrustDeskModel_isWord_28 rfl rfl ?_
              refine mv_aload_n d_TrustDeskModel_isWord_29 rfl rfl ?_
              refine mv_slenK (i := 12) (v := 4) d_TrustDeskModel_isWord_30 lV_TrustDeskModel_214 (by decide) rfl (by decide) (Nat.le_of_ble_eq_true rfl) ?_
              refine mv_icmp_ge_t (tgt := 63) d_TrustDeskModel_isWord_33 (by decide) (by decide) ?_
              refine mv_iconst (v := 1) d_TrustDeskModel_isWord_63 (by decide) ?_
              exact mv_iret d_TrustDeskModel_isWord_64 rfl (by decide) ⟨_, I0, _, rfl, by decide, by decide, yR, (fun _ => by have := yR.1 15 _ _ rfl; have := yR.1 16 _ _ rfl; have := yR.1 19 _ _ rfl; omega), (fun _ => ⟨by have := yR.1 15 _ _ rfl; have := yR.1 16 _ _ rfl; have := yR.1 19 _ _ rfl; omega, by have := yR.1 15 _ _ rfl; have := yR.1 16 _ _ rfl; have := yR.1 19 _ _ rfl; omega, by have := yR.1 15 _ _ rfl; have := yR.1 16 _ _ rfl; have := yR.1 19 _ _ rfl; omega, by have := yR.1 15 _ _ rfl; have := yR.1 16 _ _ rfl; have := yR.1 19 _ _ rfl; omega, by have := yR.1 15 _ _ rfl; have := yR.1 16 _ _ rfl; have := yR.1 19 _ _ rfl; omega, by have := yR.1 15 _ _ rfl; have := yR.1 16 _ _ rfl; have := yR.1 19 _ _ rfl; omega⟩), (fun h => absurd h (by decide))⟩
            · refine mv_iconst (v := 0) d_TrustDeskModel_isWord_55 (by decide) ?_
              exact mv_iret d_TrustDeskModel_isWord_56 rfl (by decide) ⟨_, I0, _, rfl, by decide, by decide, yR, (fun h => absurd h (by decide)), (fun h => absurd h (by decide)), (fun _ h => by obtain ⟨h1, h2, h3, h4, h5, h6⟩ := h; have := yR.1 15 _ _ rfl; have := yR.1 16 _ _ rfl; have := yR.1 19 _ _ rfl; omega)⟩
          · refine mv_iconst (v := 0) d_TrustDeskModel_isWord_55 (by decide) ?_
            exact mv_iret d_TrustDeskModel_isWord_56 rfl (by decide) ⟨_, I0, _, rfl, by decide, by decide, yR, (fun h => absurd h (by decide)), (fun h => absurd h (by decide)), (fun _ h => by obtain ⟨h1, h2, h3, h4, h5, h6⟩ := h; have := yR.1 15 _ _ rfl; have := yR.1 16 _ _ rfl; have := yR.1 19 _ _ rfl; omega)⟩
        · refine mv_iconst (v := 0) d_TrustDeskModel_isWord_55 (by decide) ?_
          exact mv_iret d_TrustDeskModel_isWord_56 rfl (by decide) ⟨_, I0, _, rfl, by decide, by decide, yR, (fun h => absurd h (by decide)), (fun h => absurd h (by decide)), (fun _ h => by obtain ⟨h1, h2, h3, h4, h5, h6⟩ := h; have := yR.1 15 _ _ rfl; have := yR.1 16 _ _ rfl; have := yR.1 19 _ _ rfl; omega)⟩
      · refine mv_iconst (v := 0) d_TrustDeskModel_isWord_55 (by decide) ?_
        exact mv_iret d_TrustDeskModel_isWord_56 rfl (by decide) ⟨_, I0, _, rfl, by decide, by decide, yR, (fun h => absurd h (by decide)), (fun h => absurd h (by decide)), (fun _ h => by obtain ⟨h1, h2, h3, h4, h5, h6⟩ := h; have := yR.1 15 _ _ rfl; have := yR.1 16 _ _ rfl; have := yR.1 19 _ _ rfl; omega)⟩
    · refine mv_iconst (v := 0) d_TrustDeskModel_isWord_24 (by decide) ?_
      exact mv_iret d_TrustDeskModel_isWord_25 rfl (by decide) ⟨_, I0, _, rfl, by decide, by decide, yR, (fun h => absurd h (by decide)), (fun h => absurd h (by decide)), (fun _ h => by obtain ⟨h1, h2, h3, h4, h5, h6⟩ := h; have := yR.1 15 _ _ rfl; have := yR.1 16 _ _ rfl; have := yR.1 19 _ _ rfl; omega)⟩
theorem d_TrustDeskModel_readRule_81 : decode kY_TrustDeskModel_readRule.2.1 81 = .ok (.ifCond .eq 7, 3) := by decide +kernel
theorem d_TrustDeskModel_readRule_88 : decode kY_TrustDeskModel_readRule.2.1 88 = .ok (.aload_n 0, 1) := by decide +kernel
theorem d_TrustDeskModel_readRule_89 : decode kY_TrustDeskModel_readRule.2.1 89 = .ok (.ldc_w 372, 3) := by decide +kernel
theorem d_TrustDeskModel_readRule_92 : decode kY_TrustDeskModel_readRule.2.1 92 = .ok (.invokevirtual 244, 3) := by decide +kernel
def w_TrustDeskModel_isWord_s1_23_x : List Nat := []
set_option maxHeartbeats 100000000 in theorem tc_TrustDeskModel_isWord_s1_23_x {g : mj_G} {l : Launch} {d : Nat} {T0 : tm_H} {M0 : mj_M} {n0 x9 : Nat} {o0 : Nat} (h_o0 : T0 o0 = some (0, 13, 0)) (yR : rI M0 o0) (I0 : tm_I tm_FT (tm_in w_TrustDeskModel_isWord_s1_23_x) x9 T0 M0 n0 T0 M0 n0) : mj_Met g l kY_TrustDeskModel_isWord (d + 4) [.ref o0, .ref 23] M0 n0 0 0 (tm_Q tm_FT (tm_in w_TrustDeskModel_isWord_s1_23_x) x9 T0 M0 n0 (fun r _ M => ∃ v : Int32, r = some (.int v) ∧ 0 ≤ v.toInt ∧ v.toInt ≤ 1 ∧ rI M o0 ∧ (v.toInt = 1 → rv M0 o0 17 = 3) ∧ (v.toInt = 1 → rv M0 o0 17 = 3 ∧ rv M0 o0 15 - rv M0 o0 16 = 4 ∧ ra M0 o0 13 ((rv M0 o0 16).toNat + 0) = 115 ∧ ra M0 o0 13 ((rv M0 o0 16).toNat + 1) = 97 ∧ ra M0 o0 13 ((rv M0 o0 16).toNat + 2) = 108 ∧ ra M0 o0 13 ((rv M0 o0 16).toNat + 3) = 101) ∧ (v.toInt = 0 → ¬ (rv M0 o0 17 = 3 ∧ rv M0 o0 15 - rv M0 o0 16 = 4 ∧ ra M0 o0 13 ((rv M0 o0 16).toNat + 0) = 115 ∧ ra M0 o0 13 ((rv M0 o0 16).toNat + 1) = 97 ∧ ra M0 o0 13 ((rv M0 o0 16).toNat + 2) = 108 ∧ ra M0 o0 13 ((rv M0 o0 16).toNat + 3) = 101)))) := by
  refine mj_enter (by decide) (Nat.le_of_ble_eq_true rfl) ?_
  refine mv_aload_n d_TrustDeskModel_isWord_0 rfl rfl ?_
  obtain ⟨v2, q1⟩ := tm_atI I0 h_o0 (k := 17) rfl
  refine tr_getK q1 d_TrustDeskModel_isWord_1 f_TrustDeskModel_198_13 ?_
  have := tm_rv q1
  refine mv_iconst (v := 3) d_TrustDeskModel_isWord_4 (by decide) ?_
  have := mz_hi v2
  refine mv_icmp_neZ (tgt := 24) (a := v2.toInt) (b := 3) d_TrustDeskModel_isWord_5 (by decide) rfl (by decide) (fun b3 => ?_) (fun b3 => ?_)
  · refine mv_iconst (v := 0) d_TrustDeskModel_isWord_24 (by decide) ?_
    exact mv_iret d_TrustDeskModel_isWord_25 rfl (by decide) ⟨_, I0, _, rfl, by decide, by decide, yR, (fun h => absurd h (by decide)), (fun h => absurd h (by decide)), (fun _ h => by obtain ⟨h1, h2, h3, h4, h5, h6⟩ := h; have := yR.1 15 _ _ rfl; have := yR.1 16 _ _ rfl; have := yR.1 19 _ _ rfl; omega)⟩
  · refine mv_aload_n d_TrustDeskModel_isWord_8 rfl rfl ?_
    obtain ⟨v5, q4⟩ := tm_atI I0 h_o0 (k := 15) rfl
    refine tr_getK q4 d_TrustDeskModel_isWord_9 f_TrustDeskModel_192_13 ?_
    have := yR.f (k := 15) q4 rfl
    have := tm_rv q4
    refine mv_aload_n d_TrustDeskModel_isWord_12 rfl rfl ?_
    obtain ⟨v7, q6⟩ := tm_atI I0 h_o0 (k := 16) rfl
    refine tr_getK q6 d_TrustDeskModel_isWord_13 f_TrustDeskModel_195_13 ?_
    have := yR.f (k := 16) q6 rfl
    have := tm_rv q6
    refine mv_isub d_TrustDeskModel_isWord_16 ?_
    refine mv_aload_n d_TrustDeskModel_isWord_17 rfl rfl ?_
    refine mv_slenK (i := 13) (v := 4) d_TrustDeskModel_isWord_18 lV_TrustDeskModel_214 (by decide) rfl (by decide) (Nat.le_of_ble_eq_true rfl) ?_
    have b8 : (v5 - v7 : Int32).toInt = (v5.toInt - v7.toInt) := mz_sub2 rfl rfl (by have := yR.1 15 _ _ rfl; have := yR.1 16 _ _ rfl; have := yR.1 19 _ _ rfl; omega) (by have := yR.1 15 _ _ rfl; have := yR.1 16 _ _ rfl; have := yR.1 19 _ _ rfl; omega)
    have := mz_hi (v5 - v7)
    refine mv_icmp_eqZ (tgt := 26) (a := (v5 - v7).toInt) (b := 4) d_TrustDeskModel_isWord_21 (by decide) rfl (by decide) (fun b9 => ?_) (fun b9 => ?_)
    · refine mv_iconst (v := 0) d_TrustDeskModel_isWord_26 (by decide) ?_
      refine mv_istore_n (lv' := [(2, .int 0), (0, .ref o0), (1, .ref 23)]) d_TrustDeskModel_isWord_27 rfl (by decide) rfl ?_
      refine mv_iload_n d_TrustDeskModel_isWord_28 rfl rfl ?_
      refine mv_aload_n d_TrustDeskModel_isWord_29 rfl rfl ?_
      refine mv_slenK (i := 13) (v := 4) d_TrustDeskModel_isWord_30 lV_TrustDeskModel_214 (by decide) rfl (by decide) (Nat.le_of_ble_eq_true rfl) ?_
      refine mv_icmp_ge_f (tgt := 63) d_TrustDeskModel_isWord_33 (by decide) (by decide) ?_
      refine mv_aload_n d_TrustDeskModel_isWord_36 rfl rfl ?_
      obtain ⟨a11, q10, t_a11⟩ := tm_atR I0 h_o0 (k := 13) rfl
      refine tr_getK q10 d_TrustDeskModel_isWord_37 f_TrustDeskModel_44_13 ?_
      refine mv_aload_n d_TrustDeskModel_isWord_40 rfl rfl ?_
      refine tr_getK (k := 16) q6 d_TrustDeskModel_isWord_41 f_TrustDeskModel_195_13 ?_
      refine mv_iload_n d_TrustDeskModel_isWord_44 rfl rfl ?_
      refine mv_iadd d_TrustDeskModel_isWord_45 ?_
      have b12 : (v7 + 0 : Int32).toInt = (v7.toInt + 0) := mz_add2 rfl (by decide) (by have := yR.1 15 _ _ rfl; have := yR.1 16 _ _ rfl; have := yR.1 19 _ _ rfl; omega) (by have := yR.1 15 _ _ rfl; have := yR.1 16 _ _ rfl; have := yR.1 19 _ _ rfl; omega)
      refine tr_baldR (o := o0) (k := 13) I0 q10 t_a11 (by decide) d_TrustDeskModel_isWord_46 (vp_in_iff.mpr (by have := yR.1 15 _ _ rfl; have := yR.1 16 _ _ rfl; have := yR.1 19 _ _ rfl; omega)) (fun v13 e14 => ?_)
      have := yR.a (k := 13) rfl ((v7 + 0) : Int32).toNatClampNeg
      have h15 : (v7 + 0).toNatClampNeg = (rv M0 o0 16).toNat + 0 := by have := mz_nat9 (i := (v7 + 0)) (by have := yR.1 15 _ _ rfl; have := yR.1 16 _ _ rfl; have := yR.1 19 _ _ rfl; omega); have := yR.1 15 _ _ rfl; have := yR.1 16 _ _ rfl; have := yR.1 19 _ _ rfl; omega
      have : v13.toInt = ra M0 o0 13 ((rv M0 o0 16).toNat + 0) := by rw [e14, h15]
      refine mv_aload_n d_TrustDeskModel_isWord_47 rfl rfl ?_
      refine mv_iload_n d_TrustDeskModel_isWord_48 rfl rfl ?_
      refine mv_schC (i := 13) (v := 115) d_TrustDeskModel_isWord_49 lV_TrustDeskModel_220 (by decide) rfl (by decide) (by decide) (Nat.le_of_ble_eq_true rfl) (by decide) ?_
      have := mz_hi v13
      refine mv_icmp_eqZ (tgt := 57) (a := v13.toInt) (b := 115) d_TrustDeskModel_isWord_52 (by decide) rfl (by decide) (fun b16 => ?_) (fun b16 => ?_)
      · refine mv_iinc (v := 1) (lv' := [(2, .int 1), (0, .ref o0), (1, .ref 23)]) d_TrustDeskModel_isWord_57 rfl (by decide) (by decide) rfl ?_
        refine mv_goto (tgt := 28) d_TrustDeskModel_isWord_60 (by decide) ?_
        refine mv_iload_n d_TrustDeskModel_isWord_28 rfl rfl ?_
        refine mv_aload_n d_TrustDeskModel_isWord_29 rfl rfl ?_
        refine mv_slenK (i := 13) (v := 4) d_TrustDeskModel_isWord_30 lV_TrustDeskModel_214 (by decide) rfl (by decide) (Nat.le_of_ble_eq_true rfl) ?_
        refine mv_icmp_ge_f (tgt := 63) d_TrustDeskModel_isWord_33 (by decide) (by decide) ?_
        refine mv_aload_n d_TrustDeskModel_isWord_36 rfl rfl ?_
        refine tr_getK (k := 13) q10 d_TrustDeskModel_isWord_37 f_TrustDeskModel_44_13 ?_
        refine mv_aload_n d_TrustDeskModel_isWord_40 rfl rfl ?_
        refine tr_getK (k := 16) q6 d_TrustDeskModel_isWord_41 f_TrustDeskModel_195_13 ?_
        refine mv_iload_n d_TrustDeskModel_isWord_44 rfl rfl ?_
        refine mv_iadd d_TrustDeskModel_isWord_45 ?_
        have b17 : (v7 + 1 : Int32).toInt = (v7.toInt + 1) := mz_add2 rfl (by decide) (by have := yR.1 15 _ _ rfl; have := yR.1 16 _ _ rfl; have := yR.1 19 _ _ rfl; omega) (by have := yR.1 15 _ _ rfl; have := yR.1 16 _ _ rfl; have := yR.1 19 _ _ rfl; omega)
        refine tr_baldR (o := o0) (k := 13) I0 q10 t_a11 (by decide) d_TrustDeskModel_isWord_46 (vp_in_iff.mpr (by have := yR.1 15 _ _ rfl; have := yR.1 16 _ _ rfl; have := yR.1 19 _ _ rfl; omega)) (fun v18 e19 => ?_)
        have := yR.a (k := 13) rfl ((v7 + 1) : Int32).toNatClampNeg
        have h20 : (v7 + 1).toNatClampNeg = (rv M0 o0 16).toNat + 1 := by have := mz_nat9 (i := (v7 + 1)) (by have := yR.1 15 _ _ rfl; have := yR.1 16 _ _ rfl; have := yR.1 19 _ _ rfl; omega); have := yR.1 15 _ _ rfl; have := yR.1 16 _ _ rfl; have := yR.1 19 _ _ rfl; omega
        have : v18.toInt = ra M0 o0 13 ((rv M0 o0 16).toNat + 1) := by rw [e19, h20]
        refine mv_aload_n d_TrustDeskModel_isWord_47 rfl rfl ?_
        refine mv_iload_n d_TrustDeskModel_isWord_48 rfl rfl ?_
        refine mv_schC (i := 13) (v := 97) d_TrustDeskModel_isWord_49 lV_TrustDeskModel_220 (by decide) rfl (by decide) (by decide) (Nat.le_of_ble_eq_true rfl) (by decide) ?_
        have := mz_hi v18
        refine mv_icmp_eqZ (tgt := 57) (a := v18.toInt) (b := 97) d_TrustDeskModel_isWord_52 (by decide) rfl (by decide) (fun b21 => ?_) (fun b21 => ?_)
        · refine mv_iinc (v := 2) (lv' := [(2, .int 2), (0, .ref o0), (1, .ref 23)]) d_TrustDeskModel_isWord_57 rfl (by decide) (by decide) rfl ?_
          refine mv_goto (tgt := 28) d_TrustDeskModel_isWord_60 (by decide) ?_
          refine mv_iload_n d_TrustDeskModel_isWord_28 rfl rfl ?_
          refine mv_aload_n d_TrustDeskModel_isWord_29 rfl rfl ?_
          refine mv_slenK (i := 13) (v := 4) d_TrustDeskModel_isWord_30 lV_TrustDeskModel_214 (by decide) rfl (by decide) (Nat.le_of_ble_eq_true rfl) ?_
          refine mv_icmp_ge_f (tgt := 63) d_TrustDeskModel_isWord_33 (by decide) (by decide) ?_
          refine mv_aload_n d_TrustDeskModel_isWord_36 rfl rfl ?_
          refine tr_getK (k := 13) q10 d_TrustDeskModel_isWord_37 f_TrustDeskModel_44_13 ?_
          refine mv_aload_n d_TrustDeskModel_isWord_40 rfl rfl ?_
          refine tr_getK (k := 16) q6 d_TrustDeskModel_isWord_41 f_TrustDeskModel_195_13 ?_
          refine mv_iload_n d_TrustDeskModel_isWord_44 rfl rfl ?_
          refine mv_iadd d_TrustDeskModel_isWord_45 ?_
          have b22 : (v7 + 2 : Int32).toInt = (v7.toInt + 2) := mz_add2 rfl (by decide) (by have := yR.1 15 _ _ rfl; have := yR.1 16 _ _ rfl; have := yR.1 19 _ _ rfl; omega) (by have := yR.1 15 _ _ rfl; have := yR.1 16 _ _ rfl; have := yR.1 19 _ _ rfl; omega)
          refine tr_baldR (o := o0) (k := 13) I0 q10 t_a11 (by decide) d_TrustDeskModel_isWord_46 (vp_in_iff.mpr (by have := yR.1 15 _ _ rfl; have := yR.1 16 _ _ rfl; have := yR.1 19 _ _ rfl; omega)) (fun v23 e24 => ?_)
          have := yR.a (k := 13) rfl ((v7 + 2) : Int32).toNatClampNeg
          have h25 : (v7 + 2).toNatClampNeg = (rv M0 o0 16).toNat + 2 := by have := mz_nat9 (i := (v7 + 2)) (by have := yR.1 15 _ _ rfl; have := yR.1 16 _ _ rfl; have := yR.1 19 _ _ rfl; omega); have := yR.1 15 _ _ rfl; have := yR.1 16 _ _ rfl; have := yR.1 19 _ _ rfl; omega
          have : v23.toInt = ra M0 o0 13 ((rv M0 o0 16).toNat + 2) := by rw [e24, h25]
          refine mv_aload_n d_TrustDeskModel_isWord_47 rfl rfl ?_
          refine mv_iload_n d_TrustDeskModel_isWord_48 rfl rfl ?_
          refine mv_schC (i := 13) (v := 108) d_TrustDeskModel_isWord_49 lV_TrustDeskModel_220 (by decide) rfl (by decide) (by decide) (Nat.le_of_ble_eq_true rfl) (by decide) ?_
          have := mz_hi v23
          refine mv_icmp_eqZ (tgt := 57) (a := v23.toInt) (b := 108) d_TrustDeskModel_isWord_52 (by decide) rfl (by decide) (fun b26 => ?_) (fun b26 => ?_)
          · refine mv_iinc (v := 3) (lv' := [(2, .int 3), (0, .ref o0), (1, .ref 23)]) d_TrustDeskModel_isWord_57 rfl (by decide) (by decide) rfl ?_
            refine mv_goto (tgt := 28) d_TrustDeskModel_isWord_60 (by decide) ?_
            refine mv_iload_n d_TrustDeskModel_isWord_28 rfl rfl ?_
            refine mv_aload_n d_TrustDeskModel_isWord_29 rfl rfl ?_
            refine mv_slenK (i := 13) (v := 4) d_TrustDeskModel_isWord_30 lV_TrustDeskModel_214 (by decide) rfl (by decide) (Nat.le_of_ble_eq_true rfl) ?_
            refine mv_icmp_ge_f (tgt := 63) d_TrustDeskModel_isWord_33 (by decide) (by decide) ?_
            refine mv_aload_n d_TrustDeskModel_isWord_36 rfl rfl ?_
            refine tr_getK (k := 13) q10 d_TrustDeskModel_isWord_37 f_TrustDeskModel_44_13 ?_
            refine mv_aload_n d_TrustDeskModel_isWord_40 rfl rfl ?_
            refine tr_getK (k := 16) q6 d_TrustDeskModel_isWord_41 f_TrustDeskModel_195_13 ?_
            refine mv_iload_n d_TrustDeskModel_isWord_44 rfl rfl ?_
            refine mv_iadd d_TrustDeskModel_isWord_45 ?_
            have b27 : (v7 + 3 : Int32).toInt = (v7.toInt + 3) := mz_add2 rfl (by decide) (by have := yR.1 15 _ _ rfl; have := yR.1 16 _ _ rfl; have := yR.1 19 _ _ rfl; omega) (by have := yR.1 15 _ _ rfl; have := yR.1 16 _ _ rfl; have := yR.1 19 _ _ rfl; omega)
            refine tr_baldR (o := o0) (k := 13) I0 q10 t_a11 (by decide) d_TrustDeskModel_isWord_46 (vp_in_iff.mpr (by have := yR.1 15 _ _ rfl; have := yR.1 16 _ _ rfl; have := yR.1 19 _ _ rfl; omega)) (fun v28 e29 => ?_)
            have := yR.a (k := 13) rfl ((v7 + 3) : Int32).toNatClampNeg
            have h30 : (v7 + 3).toNatClampNeg = (rv M0 o0 16).toNat + 3 := by have := mz_nat9 (i := (v7 + 3)) (by have := yR.1 15 _ _ rfl; have := yR.1 16 _ _ rfl; have := yR.1 19 _ _ rfl; omega); have := yR.1 15 _ _ rfl; have := yR.1 16 _ _ rfl; have := yR.1 19 _ _ rfl; omega
            have : v28.toInt = ra M0 o0 13 ((rv M0 o0 16).toNat + 3) := by rw [e29, h30]
            refine mv_aload_n d_TrustDeskModel_isWord_47 rfl rfl ?_
            refine mv_iload_n d_TrustDeskModel_isWord_48 rfl rfl ?_
            refine mv_schC (i := 13) (v := 101) d_TrustDeskModel_isWord_49 lV_TrustDeskModel_220 (by decide) rfl (by decide) (by decide) (Nat.le_of_ble_eq_true rfl) (by decide) ?_
            have := mz_hi v28
            refine mv_icmp_eqZ (tgt := 57) (a := v28.toInt) (b := 101) d_TrustDeskModel_isWord_52 (by decide) rfl (by decide) (fun b31 => ?_) (fun b31 => ?_)
            · refine mv_iinc (v := 4) (lv' := [(2, .int 4), (0, .ref o0), (1, .ref 23)]) d_TrustDeskModel_isWord_57 rfl (by decide) (by decide) rfl ?_
              refine mv_goto (tgt := 28) d_TrustDeskModel_isWord_60 (by decide) ?_
              refine mv_iload_n d_TrustDeskModel_isWord_28 rfl rfl ?_
              refine mv_aload_n d_TrustDeskModel_isWord_29 rfl rfl ?_
              refine mv_slenK (i := 13) (v := 4) d_TrustDeskModel_isWord_30 lV_TrustDeskModel_214 (by decide) rfl (by decide) (Nat.le_of_ble_eq_true rfl) ?_
              refine mv_icmp_ge_t (tgt := 63) d_TrustDeskModel_isWord_33 (by decide) (by decide) ?_
              refine mv_iconst (v := 1) d_TrustDeskModel_isWord_63 (by decide) ?_
              exact mv_iret d_TrustDeskModel_isWord_64 rfl (by decide) ⟨_, I0, _, rfl, by decide, by decide, yR, (fun _ => by have := yR.1 15 _ _ rfl; have := yR.1 16 _ _ rfl; have := yR.1 19 _ _ rfl; omega), (fun _ => ⟨by have := yR.1 15 _ _ rfl; have := yR.1 16 _ _ rfl; have := yR.1 19 _ _ rfl; omega, by have := yR.1 15 _ _ rfl; have := yR.1 16 _ _ rfl; have := yR.1 19 _ _ rfl; omega, by have := yR.1 15 _ _ rfl; have := yR.1 16 _ _ rfl; have := yR.1 19 _ _ rfl; omega, by have := yR.1 15 _ _ rfl; have := yR.1 16 _ _ rfl; have := yR.1 19 _ _ rfl; omega, by have := yR.1 15 _ _ rfl; have := yR.1 16 _ _ rfl; have := yR.1 19 _ _ rfl; omega, by have := yR.1 15 _ _ rfl; have := yR.1 16 _ _ rfl; have := yR.1 19 _ _ rfl; omega⟩), (fun h => absurd h (by decide))⟩
            · refine mv_iconst (v := 0) d_TrustDeskModel_isWord_55 (by decide) ?_
              exact mv_iret d_TrustDeskModel_isWord_56 rfl (by decide) ⟨_, I0, _, rfl, by decide, by decide, yR, (fun h => absurd h (by decide)), (fun h => absurd h (by decide)), (fun _ h => by obtain ⟨h1, h2, h3, h4, h5, h6⟩ := h; have := yR.1 15 _ _ rfl; have := yR.1 16 _ _ rfl; have := yR.1 19 _ _ rfl; omega)⟩
          · refine mv_iconst (v := 0) d_TrustDeskModel_isWord_55 (by decide) ?_
            exact mv_iret d_TrustDeskModel_isWord_56 rfl (by decide) ⟨_, I0, _, rfl, by decide, by decide, yR, (fun h => absurd h (by decide)), (fun h => absurd h (by decide)), (fun _ h => by obtain ⟨h1, h2, h3, h4, h5, h6⟩ := h; have := yR.1 15 _ _ rfl; have := yR.1 16 _ _ rfl; have := yR.1 19 _ _ rfl; omega)⟩
        · refine mv_iconst (v := 0) d_TrustDeskModel_isWord_55 (by decide) ?_
          exact mv_iret d_TrustDeskModel_isWord_56 rfl (by decide) ⟨_, I0, _, rfl, by decide, by decide, yR, (fun h => absurd h (by decide)), (fun h => absurd h (by decide)), (fun _ h => by obtain ⟨h1, h2, h3, h4, h5, h6⟩ := h; have := yR.1 15 _ _ rfl; have := yR.1 16 _ _ rfl; have := yR.1 19 _ _ rfl; omega)⟩
      · refine mv_iconst (v := 0) d_TrustDeskModel_isWord_55 (by decide) ?_
        exact mv_iret d_TrustDeskModel_isWord_56 rfl (by decide) ⟨_, I0, _, rfl, by decide, by decide, yR, (fun h => absurd h (by decide)), (fun h => absurd h (by decide)), (fun _ h => by obtain ⟨h1, h2, h3, h4, h5, h6⟩ := h; have := yR.1 15 _ _ rfl; have := yR.1 16 _ _ rfl; have := yR.1 19 _ _ rfl; omega)⟩
    · refine mv_iconst (v := 0) d_TrustDeskModel_isWord_24 (by decide) ?_
      exact mv_iret d_TrustDeskModel_isWord_25 rfl (by decide) ⟨_, I0, _, rfl, by decide, by decide, yR, (fun h => absurd h (by decide)), (fun h => absurd h (by decide)), (fun _ h => by obtain ⟨h1, h2, h3, h4, h5, h6⟩ := h; have := yR.1 15 _ _ rfl; have := yR.1 16 _ _ rfl; have := yR.1 19 _ _ rfl; omega)⟩
theorem d_TrustDeskModel_readRule_95 : decode kY_TrustDeskModel_readRule.2.1 95 = .ok (.ifCond .eq 7, 3) := by decide +kernel
theorem d_TrustDeskModel_readRule_102 : decode kY_TrustDeskModel_readRule.2.1 102 = .ok (.aload_n 0, 1) := by decide +kernel
theorem d_TrustDeskModel_readRule_103 : decode kY_TrustDeskModel_readRule.2.1 103 = .ok (.ldc_w 374, 3) := by decide +kernel
theorem d_TrustDeskModel_readRule_106 : decode kY_TrustDeskModel_readRule.2.1 106 = .ok (.invokevirtual 244, 3) := by decide +kernel
def w_TrustDeskModel_isWord_s1_24_x : List Nat := []
set_option maxHeartbeats 100000000 in theorem tc_TrustDeskModel_isWord_s1_24_x {g : mj_G} {l : Launch} {d : Nat} {T0 : tm_H} {M0 : mj_M} {n0 x9 : Nat} {o0 : Nat} (h_o0 : T0 o0 = some (0, 13, 0)) (yR : rI M0 o0) (I0 : tm_I tm_FT (tm_in w_TrustDeskModel_isWord_s1_24_x) x9 T0 M0 n0 T0 M0 n0) : mj_Met g l kY_TrustDeskModel_isWord (d + 4) [.ref o0, .ref 24] M0 n0 0 0 (tm_Q tm_FT (tm_in w_TrustDeskModel_isWord_s1_24_x) x9 T0 M0 n0 (fun r _ M => ∃ v : Int32, r = some (.int v) ∧ 0 ≤ v.toInt ∧ v.toInt ≤ 1 ∧ rI M o0 ∧ (v.toInt = 1 → rv M0 o0 17 = 3) ∧ (v.toInt = 1 → rv M0 o0 17 = 3 ∧ rv M0 o0 15 - rv M0 o0 16 = 6 ∧ ra M0 o0 13 ((rv M0 o0 16).toNat + 0) = 115 ∧ ra M0 o0 13 ((rv M0 o0 16).toNat + 1) = 116 ∧ ra M0 o0 13 ((rv M0 o0 16).toNat + 2) = 114 ∧ ra M0 o0 13 ((rv M0 o0 16).toNat + 3) = 105 ∧ ra M0 o0 13 ((rv M0 o0 16).toNat + 4) = 107 ∧ ra M0 o0 13 ((rv M0 o0 16).toNat + 5) = 101) ∧ (v.toInt = 0 → ¬ (rv M0 o0 17 = 3 ∧ rv M0 o0 15 - rv M0 o0 16 = 6 ∧ ra M0 o0 13 ((rv M0 o0 16).toNat + 0) = 115 ∧ ra M0 o0 13 ((rv M0 o0 16).toNat + 1) = 116 ∧ ra M0 o0 13 ((rv M0 o0 16).toNat + 2) = 114 ∧ ra M0 o0 13 ((rv M0 o0 16).toNat + 3) = 105 ∧ ra M0 o0 13 ((rv M0 o0 16).toNat + 4) = 107 ∧ ra M0 o0 13 ((rv M0 o0 16).toNat + 5) = 101)))) := by
  refine mj_enter (by decide) (Nat.le_of_ble_eq_true rfl) ?_
  refine mv_aload_n d_TrustDeskModel_isWord_0 rfl rfl ?_
  obtain ⟨v2, q1⟩ := tm_atI I0 h_o0 (k := 17) rfl
  refine tr_getK q1 d_TrustDeskModel_isWord_1 f_TrustDeskModel_198_13 ?_
  have := tm_rv q1
  refine mv_iconst (v := 3) d_TrustDeskModel_isWord_4 (by decide) ?_
  have := mz_hi v2
  refine mv_icmp_neZ (tgt := 24) (a := v2.toInt) (b := 3) d_TrustDeskModel_isWord_5 (by decide) rfl (by decide) (fun b3 => ?_) (fun b3 => ?_)
  · refine mv_iconst (v := 0) d_TrustDeskModel_isWord_24 (by decide) ?_
    exact mv_iret d_TrustDeskModel_isWord_25 rfl (by decide) ⟨_, I0, _, rfl, by decide, by decide, yR, (fun h => absurd h (by decide)), (fun h => absurd h (by decide)), (fun _ h => by obtain ⟨h1, h2, h3, h4, h5, h6, h7, h8⟩ := h; have := yR.1 15 _ _ rfl; have := yR.1 16 _ _ rfl; have := yR.1 19 _ _ rfl; omega)⟩
  · refine mv_aload_n d_TrustDeskModel_isWord_8 rfl rfl ?_
    obtain ⟨v5, q4⟩ := tm_atI I0 h_o0 (k := 15) rfl
    refine tr_getK q4 d_TrustDeskModel_isWord_9 f_TrustDeskModel_192_13 ?_
    have := yR.f (k := 15) q4 rfl
    have := tm_rv q4
    refine mv_aload_n d_TrustDeskModel_isWord_12 rfl rfl ?_
    obtain ⟨v7, q6⟩ := tm_atI I0 h_o0 (k := 16) rfl
    refine tr_getK q6 d_TrustDeskModel_isWord_13 f_TrustDeskModel_195_13 ?_
    have := yR.f (k := 16) q6 rfl
    have := tm_rv q6
    refine mv_isub d_TrustDeskModel_isWord_16 ?_
    refine mv_aload_n d_TrustDeskModel_isWord_17 rfl rfl ?_
    refine mv_slenK (i := 14) (v := 6) d_TrustDeskModel_isWord_18 lV_TrustDeskModel_214 (by decide) rfl (by decide) (Nat.le_of_ble_eq_true rfl) ?_
    have b8 : (v5 - v7 : Int32).toInt = (v5.toInt - v7.toInt) := mz_sub2 rfl rfl (by have := yR.1 15 _ _ rfl; have := yR.1 16 _ _ rfl; have := yR.1 19 _ _ rfl; omega) (by have := yR.1 15 _ _ rfl; have := yR.1 16 _ _ rfl; have := yR.1 19 _ _ rfl; omega)
    have := mz_hi (v5 - v7)
    refine mv_icmp_eqZ (tgt := 26) (a := (v5 - v7).toInt) (b := 6) d_TrustDeskModel_isWord_21 (by decide) rfl (by decide) (fun b9 => ?_) (fun b9 => ?_)
    · refine mv_iconst (v := 0) d_TrustDeskModel_isWord_26 (by decide) ?_
      refine mv_istore_n (lv' := [(2, .int 0), (0, .ref o0), (1, .ref 24)]) d_TrustDeskModel_isWord_27 rfl (by decide) rfl ?_
      refine mv_iload_n d_TrustDeskModel_isWord_28 rfl rfl ?_
      refine mv_aload_n d_TrustDeskModel_isWord_29 rfl rfl ?_
      refine mv_slenK (i := 14) (v := 6) d_TrustDeskModel_isWord_30 lV_TrustDeskModel_214 (by decide) rfl (by decide) (Nat.le_of_ble_eq_true rfl) ?_
      refine mv_icmp_ge_f (tgt := 63) d_TrustDeskModel_isWord_33 (by decide) (by decide) ?_
      refine mv_aload_n d_TrustDeskModel_isWord_36 rfl rfl ?_
      obtain ⟨a11, q10, t_a11⟩ := tm_atR I0 h_o0 (k := 13) rfl
      refine tr_getK q10 d_TrustDeskModel_isWord_37 f_TrustDeskModel_44_13 ?_
      refine mv_aload_n d_TrustDeskModel_isWord_40 rfl rfl ?_
      refine tr_getK (k := 16) q6 d_TrustDeskModel_isWord_41 f_TrustDeskModel_195_13 ?_
      refine mv_iload_n d_TrustDeskModel_isWord_44 rfl rfl ?_
      refine mv_iadd d_TrustDeskModel_isWord_45 ?_
      have b12 : (v7 + 0 : Int32).toInt = (v7.toInt + 0) := mz_add2 rfl (by decide) (by have := yR.1 15 _ _ rfl; have := yR.1 16 _ _ rfl; have := yR.1 19 _ _ rfl; omega) (by have := yR.1 15 _ _ rfl; have := yR.1 16 _ _ rfl; have := yR.1 19 _ _ rfl; omega)
      refine tr_baldR (o := o0) (k := 13) I0 q10 t_a11 (by decide) d_TrustDeskModel_isWord_46 (vp_in_iff.mpr (by have := yR.1 15 _ _ rfl; have := yR.1 16 _ _ rfl; have := yR.1 19 _ _ rfl; omega)) (fun v13 e14 => ?_)
      have := yR.a (k := 13) rfl ((v7 + 0) : Int32).toNatClampNeg
      have h15 : (v7 + 0).toNatClampNeg = (rv M0 o0 16).toNat + 0 := by have := mz_nat9 (i := (v7 + 0)) (by have := yR.1 15 _ _ rfl; have := yR.1 16 _ _ rfl; have := yR.1 19 _ _ rfl; omega); have := yR.1 15 _ _ rfl; have := yR.1 16 _ _ rfl; have := yR.1 19 _ _ rfl; omega
      have : v13.toInt = ra M0 o0 13 ((rv M0 o0 16).toNat + 0) := by rw [e14, h15]
      refine mv_aload_n d_TrustDeskModel_isWord_47 rfl rfl ?_
      refine mv_iload_n d_TrustDeskModel_isWord_48 rfl rfl ?_
      refine mv_schC (i := 14) (v := 115) d_TrustDeskModel_isWord_49 lV_TrustDeskModel_220 (by decide) rfl (by decide) (by decide) (Nat.le_of_ble_eq_true rfl) (by decide) ?_
      have := mz_hi v13
      refine mv_icmp_eqZ (tgt := 57) (a := v13.toInt) (b := 115) d_TrustDeskModel_isWord_52 (by decide) rfl (by decide) (fun b16 => ?_) (fun b16 => ?_)
      · refine mv_iinc (v := 1) (lv' := [(2, .int 1), (0, .ref o0), (1, .ref 24)]) d_TrustDeskModel_isWord_57 rfl (by decide) (by decide) rfl ?_
        refine mv_goto (tgt := 28) d_TrustDeskModel_isWord_60 (by decide) ?_
        refine mv_iload_n d_TrustDeskModel_isWord_28 rfl rfl ?_
        refine mv_aload_n d_TrustDeskModel_isWord_29 rfl rfl ?_
        refine mv_slenK (i := 14) (v := 6) d_TrustDeskModel_isWord_30 lV_TrustDeskModel_214 (by decide) rfl (by decide) (Nat.le_of_ble_eq_true rfl) ?_
        refine mv_icmp_ge_f (tgt := 63) d_TrustDeskModel_isWord_33 (by decide) (by decide) ?_
        refine mv_aload_n d_TrustDeskModel_isWord_36 rfl rfl ?_
        refine tr_getK (k := 13) q10 d_TrustDeskModel_isWord_37 f_TrustDeskModel_44_13 ?_
        refine mv_aload_n d_TrustDeskModel_isWord_40 rfl rfl ?_
        refine tr_getK (k := 16) q6 d_TrustDeskModel_isWord_41 f_TrustDeskModel_195_13 ?_
        refine mv_iload_n d_TrustDeskModel_isWord_44 rfl rfl ?_
        refine mv_iadd d_TrustDeskModel_isWord_45 ?_
        have b17 : (v7 + 1 : Int32).toInt = (v7.toInt + 1) := mz_add2 rfl (by decide) (by have := yR.1 15 _ _ rfl; have := yR.1 16 _ _ rfl; have := yR.1 19 _ _ rfl; omega) (by have := yR.1 15 _ _ rfl; have := yR.1 16 _ _ rfl; have := yR.1 19 _ _ rfl; omega)
        refine tr_baldR (o := o0) (k := 13) I0 q10 t_a11 (by decide) d_TrustDeskModel_isWord_46 (vp_in_iff.mpr (by have := yR.1 15 _ _ rfl; have := yR.1 16 _ _ rfl; have := yR.1 19 _ _ rfl; omega)) (fun v18 e19 => ?_)
        have := yR.a (k := 13) rfl ((v7 + 1) : Int32).toNatClampNeg
        have h20 : (v7 + 1).toNatClampNeg = (rv M0 o0 16).toNat + 1 := by have := mz_nat9 (i := (v7 + 1)) (by have := yR.1 15 _ _ rfl; have := yR.1 16 _ _ rfl; have := yR.1 19 _ _ rfl; omega); have := yR.1 15 _ _ rfl; have := yR.1 16 _ _ rfl; have := yR.1 19 _ _ rfl; omega
        have : v18.toInt = ra M0 o0 13 ((rv M0 o0 16).toNat + 1) := by rw [e19, h20]
        refine mv_aload_n d_TrustDeskModel_isWord_47 rfl rfl ?_
        refine mv_iload_n d_TrustDeskModel_isWord_48 rfl rfl ?_
        refine mv_schC (i := 14) (v := 116) d_TrustDeskModel_isWord_49 lV_TrustDeskModel_220 (by decide) rfl (by decide) (by decide) (Nat.le_of_ble_eq_true rfl) (by decide) ?_
        have := mz_hi v18
        refine mv_icmp_eqZ (tgt := 57) (a := v18.toInt) (b := 116) d_TrustDeskModel_isWord_52 (by decide) rfl (by decide) (fun b21 => ?_) (fun b21 => ?_)
        · refine mv_iinc (v := 2) (lv' := [(2, .int 2), (0, .ref o0), (1, .ref 24)]) d_TrustDeskModel_isWord_57 rfl (by decide) (by decide) rfl ?_
          refine mv_goto (tgt := 28) d_TrustDeskModel_isWord_60 (by decide) ?_
          refine mv_iload_n d_TrustDeskModel_isWord_28 rfl rfl ?_
          refine mv_aload_n d_TrustDeskModel_isWord_29 rfl rfl ?_
          refine mv_slenK (i := 14) (v := 6) d_TrustDeskModel_isWord_30 lV_TrustDeskModel_214 (by decide) rfl (by decide) (Nat.le_of_ble_eq_true rfl) ?_
          refine mv_icmp_ge_f (tgt := 63) d_TrustDeskModel_isWord_33 (by decide) (by decide) ?_
          refine mv_aload_n d_TrustDeskModel_isWord_36 rfl rfl ?_
          refine tr_getK (k := 13) q10 d_TrustDeskModel_isWord_37 f_TrustDeskModel_44_13 ?_
          refine mv_aload_n d_TrustDeskModel_isWord_40 rfl rfl ?_
          refine tr_getK (k := 16) q6 d_TrustDeskModel_isWord_41 f_TrustDeskModel_195_13 ?_
          refine mv_iload_n d_TrustDeskModel_isWord_44 rfl rfl ?_
          refine mv_iadd d_TrustDeskModel_isWord_45 ?_
          have b22 : (v7 + 2 : Int32).toInt = (v7.toInt + 2) := mz_add2 rfl (by decide) (by have := yR.1 15 _ _ rfl; have := yR.1 16 _ _ rfl; have := yR.1 19 _ _ rfl; omega) (by have := yR.1 15 _ _ rfl; have := yR.1 16 _ _ rfl; have := yR.1 19 _ _ rfl; omega)
          refine tr_baldR (o := o0) (k := 13) I0 q10 t_a11 (by decide) d_TrustDeskModel_isWord_46 (vp_in_iff.mpr (by have := yR.1 15 _ _ rfl; have := yR.1 16 _ _ rfl; have := yR.1 19 _ _ rfl; omega)) (fun v23 e24 => ?_)
          have := yR.a (k := 13) rfl ((v7 + 2) : Int32).toNatClampNeg
          have h25 : (v7 + 2).toNatClampNeg = (rv M0 o0 16).toNat + 2 := by have := mz_nat9 (i := (v7 + 2)) (by have := yR.1 15 _ _ rfl; have := yR.1 16 _ _ rfl; have := yR.1 19 _ _ rfl; omega); have := yR.1 15 _ _ rfl; have := yR.1 16 _ _ rfl; have := yR.1 19 _ _ rfl; omega
          have : v23.toInt = ra M0 o0 13 ((rv M0 o0 16).toNat + 2) := by rw [e24, h25]
          refine mv_aload_n d_TrustDeskModel_isWord_47 rfl rfl ?_
          refine mv_iload_n d_TrustDeskModel_isWord_48 rfl rfl ?_
          refine mv_schC (i := 14) (v := 114) d_TrustDeskModel_isWord_49 lV_TrustDeskModel_220 (by decide) rfl (by decide) (by decide) (Nat.le_of_ble_eq_true rfl) (by decide) ?_
          have := mz_hi v23
          refine mv_icmp_eqZ (tgt := 57) (a := v23.toInt) (b := 114) d_TrustDeskModel_isWord_52 (by decide) rfl (by decide) (fun b26 => ?_) (fun b26 => ?_)
          · refine mv_iinc (v := 3) (lv' := [(2, .int 3), (0, .ref o0), (1, .ref 24)]) d_TrustDeskModel_isWord_57 rfl (by decide) (by decide) rfl ?_
            refine mv_goto (tgt := 28) d_TrustDeskModel_isWord_60 (by decide) ?_
            refine mv_iload_n d_TrustDeskModel_isWord_28 rfl rfl ?_
            refine mv_aload_n d_TrustDeskModel_isWord_29 rfl rfl ?_
            refine mv_slenK (i := 14) (v := 6) d_TrustDeskModel_isWord_30 lV_TrustDeskModel_214 (by decide) rfl (by decide) (Nat.le_of_ble_eq_true rfl) ?_
            refine mv_icmp_ge_f (tgt := 63) d_TrustDeskModel_isWord_33 (by decide) (by decide) ?_
            refine mv_aload_n d_TrustDeskModel_isWord_36 rfl rfl ?_
            refine tr_getK (k := 13) q10 d_TrustDeskModel_isWord_37 f_TrustDeskModel_44_13 ?_
            refine mv_aload_n d_TrustDeskModel_isWord_40 rfl rfl ?_
            refine tr_getK (k := 16) q6 d_TrustDeskModel_isWord_41 f_TrustDeskModel_195_13 ?_
            refine mv_iload_n d_TrustDeskModel_isWord_44 rfl rfl ?_
            refine mv_iadd d_TrustDeskModel_isWord_45 ?_
            have b27 : (v7 + 3 : Int32).toInt = (v7.toInt + 3) := mz_add2 rfl (by decide) (by have := yR.1 15 _ _ rfl; have := yR.1 16 _ _ rfl; have := yR.1 19 _ _ rfl; omega) (by have := yR.1 15 _ _ rfl; have := yR.1 16 _ _ rfl; have := yR.1 19 _ _ rfl; omega)
            refine tr_baldR (o := o0) (k := 13) I0 q10 t_a11 (by decide) d_TrustDeskModel_isWord_46 (vp_in_iff.mpr (by have := yR.1 15 _ _ rfl; have := yR.1 16 _ _ rfl; have := yR.1 19 _ _ rfl; omega)) (fun v28 e29 => ?_)
            have := yR.a (k := 13) rfl ((v7 + 3) : Int32).toNatClampNeg
            have h30 : (v7 + 3).toNatClampNeg = (rv M0 o0 16).toNat + 3 := by have := mz_nat9 (i := (v7 + 3)) (by have := yR.1 15 _ _ rfl; have := yR.1 16 _ _ rfl; have := yR.1 19 _ _ rfl; omega); have := yR.1 15 _ _ rfl; have := yR.1 16 _ _ rfl; have := yR.1 19 _ _ rfl; omega
            have : v28.toInt = ra M0 o0 13 ((rv M0 o0 16).toNat + 3) := by rw [e29, h30]
            refine mv_aload_n d_TrustDeskModel_isWord_47 rfl rfl ?_
            refine mv_iload_n d_TrustDeskModel_isWord_48 rfl rfl ?_
            refine mv_schC (i := 14) (v := 105) d_TrustDeskModel_isWord_49 lV_TrustDeskModel_220 (by decide) rfl (by decide) (by decide) (Nat.le_of_ble_eq_true rfl) (by decide) ?_
            have := mz_hi v28
            refine mv_icmp_eqZ (tgt := 57) (a := v28.toInt) (b := 105) d_TrustDeskModel_isWord_52 (by decide) rfl (by decide) (fun b31 => ?_) (fun b31 => ?_)
            · refine mv_iinc (v := 4) (lv' := [(2, .int 4), (0, .ref o0), (1, .ref 24)]) d_TrustDeskModel_isWord_57 rfl (by decide) (by decide) rfl ?_
              refine mv_goto (tgt := 28) d_TrustDeskModel_isWord_60 (by decide) ?_
              refine mv_iload_n d_TrustDeskModel_isWord_28 rfl rfl ?_
              refine mv_aload_n d_TrustDeskModel_isWord_29 rfl rfl ?_
              refine mv_slenK (i := 14) (v := 6) d_TrustDeskModel_isWord_30 lV_TrustDeskModel_214 (by decide) rfl (by decide) (Nat.le_of_ble_eq_true rfl) ?_
              refine mv_icmp_ge_f (tgt := 63) d_TrustDeskModel_isWord_33 (by decide) (by decide) ?_
              refine mv_aload_n d_TrustDeskModel_isWord_36 rfl rfl ?_
              refine tr_getK (k := 13) q10 d_TrustDeskModel_isWord_37 f_TrustDeskModel_44_13 ?_
              refine mv_aload_n d_TrustDeskModel_isWord_40 rfl rfl ?_
              refine tr_getK (k := 16) q6 d_TrustDeskModel_isWord_41 f_TrustDeskModel_195_13 ?_
              refine mv_iload_n d_TrustDeskModel_isWord_44 rfl rfl ?_
              refine mv_iadd d_TrustDeskModel_isWord_45 ?_
              have b32 : (v7 + 4 : Int32).toInt = (v7.toInt + 4) := mz_add2 rfl (by decide) (by have := yR.1 15 _ _ rfl; have := yR.1 16 _ _ rfl; have := yR.1 19 _ _ rfl; omega) (by have := yR.1 15 _ _ rfl; have := yR.1 16 _ _ rfl; have := yR.1 19 _ _ rfl; omega)
              refine tr_baldR (o := o0) (k := 13) I0 q10 t_a11 (by decide) d_TrustDeskModel_isWord_46 (vp_in_iff.mpr (by have := yR.1 15 _ _ rfl; have := yR.1 16 _ _ rfl; have := yR.1 19 _ _ rfl; omega)) (fun v33 e34 => ?_)
              have := yR.a (k := 13) rfl ((v7 + 4) : Int32).toNatClampNeg
              have h35 : (v7 + 4).toNatClampNeg = (rv M0 o0 16).toNat + 4 := by have := mz_nat9 (i := (v7 + 4)) (by have := yR.1 15 _ _ rfl; have := yR.1 16 _ _ rfl; have := yR.1 19 _ _ rfl; omega); have := yR.1 15 _ _ rfl; have := yR.1 16 _ _ rfl; have := yR.1 19 _ _ rfl; omega
              have : v33.toInt = ra M0 o0 13 ((rv M0 o0 16).toNat + 4) := by rw [e34, h35]
              refine mv_aload_n d_TrustDeskModel_isWord_47 rfl rfl ?_
              refine mv_iload_n d_TrustDeskModel_isWord_48 rfl rfl ?_
              refine mv_schC (i := 14) (v := 107) d_TrustDeskModel_isWord_49 lV_TrustDeskModel_220 (by decide) rfl (by decide) (by decide) (Nat.le_of_ble_eq_true rfl) (by decide) ?_
              have := mz_hi v33
              refine mv_icmp_eqZ (tgt := 57) (a := v33.toInt) (b := 107) d_TrustDeskModel_isWord_52 (by decide) rfl (by decide) (fun b36 => ?_) (fun b36 => ?_)
              · refine mv_iinc (v := 5) (lv' := [(2, .int 5), (0, .ref o0), (1, .ref 24)]) d_TrustDeskModel_isWord_57 rfl (by decide) (by decide) rfl ?_
                refine mv_goto (tgt := 28) d_TrustDeskModel_isWord_60 (by decide) ?_
                refine mv_iload_n d_TrustDeskModel_isWord_28 rfl rfl ?_
                refine mv_aload_n d_TrustDeskModel_isWord_29 rfl rfl ?_
                refine mv_slenK (i := 14) (v := 6) d_TrustDeskModel_isWord_30 lV_TrustDeskModel_214 (by decide) rfl (by decide) (Nat.le_of_ble_eq_true rfl) ?_
                refine mv_icmp_ge_f (tgt := 63) d_TrustDeskModel_isWord_33 (by decide) (by decide) ?_
                refine mv_aload_n d_TrustDeskModel_isWord_36 rfl rfl ?_
                refine tr_getK (k := 13) q10 d_TrustDeskModel_isWord_37 f_TrustDeskModel_44_13 ?_
                refine mv_aload_n d_TrustDeskModel_isWord_40 rfl rfl ?_
                refine tr_getK (k := 16) q6 d_TrustDeskModel_isWord_41 f_TrustDeskModel_195_13 ?_
                refine mv_iload_n d_TrustDeskModel_isWord_44 rfl rfl ?_
                refine mv_iadd d_TrustDeskModel_isWord_45 ?_
                have b37 : (v7 + 5 : Int32).toInt = (v7.toInt + 5) := mz_add2 rfl (by decide) (by have := yR.1 15 _ _ rfl; have := yR.1 16 _ _ rfl; have := yR.1 19 _ _ rfl; omega) (by have := yR.1 15 _ _ rfl; have := yR.1 16 _ _ rfl; have := yR.1 19 _ _ rfl; omega)
                refine tr_baldR (o := o0) (k := 13) I0 q10 t_a11 (by decide) d_TrustDeskModel_isWord_46 (vp_in_iff.mpr (by have := yR.1 15 _ _ rfl; have := yR.1 16 _ _ rfl; have := yR.1 19 _ _ rfl; omega)) (fun v38 e39 => ?_)
                have := yR.a (k := 13) rfl ((v7 + 5) : Int32).toNatClampNeg
                have h40 : (v7 + 5).toNatClampNeg = (rv M0 o0 16).toNat + 5 := by have := mz_nat9 (i := (v7 + 5)) (by have := yR.1 15 _ _ rfl; have := yR.1 16 _ _ rfl; have := yR.1 19 _ _ rfl; omega); have := yR.1 15 _ _ rfl; have := yR.1 16 _ _ rfl; have := yR.1 19 _ _ rfl; omega
                have : v38.toInt = ra M0 o0 13 ((rv M0 o0 16).toNat + 5) := by rw [e39, h40]
                refine mv_aload_n d_TrustDeskModel_isWord_47 rfl rfl ?_
                refine mv_iload_n d_TrustDeskModel_isWord_48 rfl rfl ?_
                refine mv_schC (i := 14) (v := 101) d_TrustDeskModel_isWord_49 lV_TrustDeskModel_220 (by decide) rfl (by decide) (by decide) (Nat.le_of_ble_eq_true rfl) (by decide) ?_
                have := mz_hi v38
                refine mv_icmp_eqZ (tgt := 57) (a := v38.toInt) (b := 101) d_TrustDeskModel_isWord_52 (by decide) rfl (by decide) (fun b41 => ?_) (fun b41 => ?_)
                · refine mv_iinc (v := 6) (lv' := [(2, .int 6), (0, .ref o0), (1, .ref 24)]) d_TrustDeskModel_isWord_57 rfl (by decide) (by decide) rfl ?_
                  refine mv_goto (tgt := 28) d_TrustDeskModel_isWord_60 (by decide) ?_
                  refine mv_iload_n d_TrustDeskModel_isWord_28 rfl rfl ?_
                  refine mv_aload_n d_TrustDeskModel_isWord_29 rfl rfl ?_
                  refine mv_slenK (i := 14) (v := 6) d_TrustDeskModel_isWord_30 lV_TrustDeskModel_214 (by decide) rfl (by decide) (Nat.le_of_ble_eq_true rfl) ?_
                  refine mv_icmp_ge_t (tgt := 63) d_TrustDeskModel_isWord_33 (by decide) (by decide) ?_
                  refine mv_iconst (v := 1) d_TrustDeskModel_isWord_63 (by decide) ?_
                  exact mv_iret d_TrustDeskModel_isWord_64 rfl (by decide) ⟨_, I0, _, rfl, by decide, by decide, yR, (fun _ => by have := yR.1 15 _ _ rfl; have := yR.1 16 _ _ rfl; have := yR.1 19 _ _ rfl; omega), (fun _ => ⟨by have := yR.1 15 _ _ rfl; have := yR.1 16 _ _ rfl; have := yR.1 19 _ _ rfl; omega, by have := yR.1 15 _ _ rfl; have := yR.1 16 _ _ rfl; have := yR.1 19 _ _ rfl; omega, by have := yR.1 15 _ _ rfl; have := yR.1 16 _ _ rfl; have := yR.1 19 _ _ rfl; omega, by have := yR.1 15 _ _ rfl; have := yR.1 16 _ _ rfl; have := yR.1 19 _ _ rfl; omega, by have := yR.1 15 _ _ rfl; have := yR.1 16 _ _ rfl; have := yR.1 19 _ _ rfl; omega, by have := yR.1 15 _ _ rfl; have := yR.1 16 _ _ rfl; have := yR.1 19 _ _ rfl; omega, by have := yR.1 15 _ _ rfl; have := yR.1 16 _ _ rfl; have := yR.1 19 _ _ rfl; omega, by have := yR.1 15 _ _ rfl; have := yR.1 16 _ _ rfl; have := yR.1 19 _ _ rfl; omega⟩), (fun h => absurd h (by decide))⟩
                · refine mv_iconst (v := 0) d_TrustDeskModel_isWord_55 (by decide) ?_
                  exact mv_iret d_TrustDeskModel_isWord_56 rfl (by decide) ⟨_, I0, _, rfl, by decide, by decide, yR, (fun h => absurd h (by decide)), (fun h => absurd h (by decide)), (fun _ h => by obtain ⟨h1, h2, h3, h4, h5, h6, h7, h8⟩ := h; have := yR.1 15 _ _ rfl; have := yR.1 16 _ _ rfl; have := yR.1 19 _ _ rfl; omega)⟩
              · refine mv_iconst (v := 0) d_TrustDeskModel_isWord_55 (by decide) ?_
                exact mv_iret d_TrustDeskModel_isWord_56 rfl (by decide) ⟨_, I0, _, rfl, by decide, by decide, yR, (fun h => absurd h (by decide)), (fun h => absurd h (by decide)), (fun _ h => by obtain ⟨h1, h2, h3, h4, h5, h6, h7, h8⟩ := h; have := yR.1 15 _ _ rfl; have := yR.1 16 _ _ rfl; have := yR.1 19 _ _ rfl; omega)⟩
            · refine mv_iconst (v := 0) d_TrustDeskModel_isWord_55 (by decide) ?_
              exact mv_iret d_TrustDeskModel_isWord_56 rfl (by decide) ⟨_, I0, _, rfl, by decide, by decide, yR, (fun h => absurd h (by decide)), (fun h => absurd h (by decide)), (fun _ h => by obtain ⟨h1, h2, h3, h4, h5, h6, h7, h8⟩ := h; have := yR.1 15 _ _ rfl; have := yR.1 16 _ _ rfl; have := yR.1 19 _ _ rfl; omega)⟩
          · refine mv_iconst (v := 0) d_TrustDeskModel_isWord_55 (by decide) ?_
            exact mv_iret d_TrustDeskModel_isWord_56 rfl (by decide) ⟨_, I0, _, rfl, by decide, by decide, yR, (fun h => absurd h (by decide)), (fun h => absurd h (by decide)), (fun _ h => by obtain ⟨h1, h2, h3, h4, h5, h6, h7, h8⟩ := h; have := yR.1 15 _ _ rfl; have := yR.1 16 _ _ rfl; have := yR.1 19 _ _ rfl; omega)⟩
        · refine mv_iconst (v := 0) d_TrustDeskModel_isWord_55 (by decide) ?_
          exact mv_iret d_TrustDeskModel_isWord_56 rfl (by decide) ⟨_, I0, _, rfl, by decide, by decide, yR, (fun h => absurd h (by decide)), (fun h => absurd h (by decide)), (fun _ h => by obtain ⟨h1, h2, h3, h4, h5, h6, h7, h8⟩ := h; have := yR.1 15 _ _ rfl; have := yR.1 16 _ _ rfl; have := yR.1 19 _ _ rfl; omega)⟩
      · refine mv_iconst (v := 0) d_TrustDeskModel_isWord_55 (by decide) ?_
        exact mv_iret d_TrustDeskModel_isWord_56 rfl (by decide) ⟨_, I0, _, rfl, by decide, by decide, yR, (fun h => absurd h (by decide)), (fun h => absurd h (by decide)), (fun _ h => by obtain ⟨h1, h2, h3, h4, h5, h6, h7, h8⟩ := h; have := yR.1 15 _ _ rfl; have := yR.1 16 _ _ rfl; have := yR.1 19 _ _ rfl; omega)⟩
    · refine mv_iconst (v := 0) d_TrustDeskModel_isWord_24 (by decide) ?_
      exact mv_iret d_TrustDeskModel_isWord_25 rfl (by decide) ⟨_, I0, _, rfl, by decide, by decide, yR, (fun h => absurd h (by decide)), (fun h => absurd h (by decide)), (fun _ h => by obtain ⟨h1, h2, h3, h4, h5, h6, h7, h8⟩ := h; have := yR.1 15 _ _ rfl; have := yR.1 16 _ _ rfl; have := yR.1 19 _ _ rfl; omega)⟩
theorem d_TrustDeskModel_readRule_109 : decode kY_TrustDeskModel_readRule.2.1 109 = .ok (.ifCond .eq 7, 3) := by decide +kernel
theorem d_TrustDeskModel_readRule_116 : decode kY_TrustDeskModel_readRule.2.1 116 = .ok (.iconst (-1), 1) := by decide +kernel
theorem d_TrustDeskModel_readRule_117 : decode kY_TrustDeskModel_readRule.2.1 117 = .ok (.iastore, 1) := by decide +kernel
theorem d_TrustDeskModel_readRule_118 : decode kY_TrustDeskModel_readRule.2.1 118 = .ok (.aload_n 0, 1) := by decide +kernel
theorem d_TrustDeskModel_readRule_119 : decode kY_TrustDeskModel_readRule.2.1 119 = .ok (.getfield 29, 3) := by decide +kernel
theorem d_TrustDeskModel_readRule_122 : decode kY_TrustDeskModel_readRule.2.1 122 = .ok (.iload_n 2, 1) := by decide +kernel
theorem d_TrustDeskModel_readRule_123 : decode kY_TrustDeskModel_readRule.2.1 123 = .ok (.iaload, 1) := by decide +kernel
theorem d_TrustDeskModel_readRule_124 : decode kY_TrustDeskModel_readRule.2.1 124 = .ok (.iconst (-1), 1) := by decide +kernel
theorem d_TrustDeskModel_readRule_125 : decode kY_TrustDeskModel_readRule.2.1 125 = .ok (.if_icmp .ne 8, 3) := by decide +kernel
theorem d_TrustDeskModel_readRule_128 : decode kY_TrustDeskModel_readRule.2.1 128 = .ok (.aload_n 0, 1) := by decide +kernel
theorem d_TrustDeskModel_readRule_129 : decode kY_TrustDeskModel_readRule.2.1 129 = .ok (.iconst 1, 1) := by decide +kernel
theorem d_TrustDeskModel_readRule_130 : decode kY_TrustDeskModel_readRule.2.1 130 = .ok (.invokevirtual 240, 3) := by decide +kernel
theorem d_TrustDeskModel_readRule_133 : decode kY_TrustDeskModel_readRule.2.1 133 = .ok (.aload_n 0, 1) := by decide +kernel
theorem d_TrustDeskModel_readRule_134 : decode kY_TrustDeskModel_readRule.2.1 134 = .ok (.invokevirtual 230, 3) := by decide +kernel
theorem d_TrustDeskModel_readRule_137 : decode kY_TrustDeskModel_readRule.2.1 137 = .ok (.ifCond .eq 7, 3) := by decide +kernel
theorem d_TrustDeskModel_readRule_144 : decode kY_TrustDeskModel_readRule.2.1 144 = .ok (.aload_n 0, 1) := by decide +kernel
theorem d_TrustDeskModel_readRule_145 : decode kY_TrustDeskModel_readRule.2.1 145 = .ok (.ldc_w 333, 3) := by decide +kernel
theorem d_TrustDeskModel_readRule_148 : decode kY_TrustDeskModel_readRule.2.1 148 = .ok (.invokevirtual 329, 3) := by decide +kernel
theorem d_TrustDeskModel_readRule_151 : decode kY_TrustDeskModel_readRule.2.1 151 = .ok (.aload_n 0, 1) := by decide +kernel
theorem d_TrustDeskModel_readRule_152 : decode kY_TrustDeskModel_readRule.2.1 152 = .ok (.getfield 38, 3) := by decide +kernel
theorem d_TrustDeskModel_readRule_155 : decode kY_TrustDeskModel_readRule.2.1 155 = .ok (.iload_n 2, 1) := by decide +kernel
theorem d_TrustDeskModel_readRule_156 : decode kY_TrustDeskModel_readRule.2.1 156 = .ok (.aload_n 0, 1) := by decide +kernel
theorem d_TrustDeskModel_readRule_157 : decode kY_TrustDeskModel_readRule.2.1 157 = .ok (.getfield 20, 3) := by decide +kernel
theorem d_TrustDeskModel_readRule_160 : decode kY_TrustDeskModel_readRule.2.1 160 = .ok (.bipush 44, 2) := by decide +kernel
theorem d_TrustDeskModel_readRule_162 : decode kY_TrustDeskModel_readRule.2.1 162 = .ok (.iaload, 1) := by decide +kernel
theorem d_TrustDeskModel_readRule_163 : decode kY_TrustDeskModel_readRule.2.1 163 = .ok (.iastore, 1) := by decide +kernel
theorem d_TrustDeskModel_readRule_164 : decode kY_TrustDeskModel_readRule.2.1 164 = .ok (.aload_n 0, 1) := by decide +kernel
theorem d_TrustDeskModel_readRule_165 : decode kY_TrustDeskModel_readRule.2.1 165 = .ok (.invokevirtual 302, 3) := by decide +kernel
theorem d_TrustDeskModel_readRule_168 : decode kY_TrustDeskModel_readRule.2.1 168 = .ok (.goto 83, 3) := by decide +kernel
theorem d_TrustDeskModel_readRule_112 : decode kY_TrustDeskModel_readRule.2.1 112 = .ok (.iconst 3, 1) := by decide +kernel
theorem d_TrustDeskModel_readRule_113 : decode kY_TrustDeskModel_readRule.2.1 113 = .ok (.goto 4, 3) := by decide +kernel
theorem d_TrustDeskModel_readRule_140 : decode kY_TrustDeskModel_readRule.2.1 140 = .ok (.aload_n 0, 1) := by decide +kernel
theorem d_TrustDeskModel_readRule_141 : decode kY_TrustDeskModel_readRule.2.1 141 = .ok (.invokevirtual 237, 3) := by decide +kernel
theorem d_TrustDeskModel_readRule_98 : decode kY_TrustDeskModel_readRule.2.1 98 = .ok (.iconst 2, 1) := by decide +kernel
theorem d_TrustDeskModel_readRule_99 : decode kY_TrustDeskModel_readRule.2.1 99 = .ok (.goto 18, 3) := by decide +kernel
theorem d_TrustDeskModel_readRule_84 : decode kY_TrustDeskModel_readRule.2.1 84 = .ok (.iconst 1, 1) := by decide +kernel
theorem d_TrustDeskModel_readRule_85 : decode kY_TrustDeskModel_readRule.2.1 85 = .ok (.goto 32, 3) := by decide +kernel
theorem d_TrustDeskModel_readRule_70 : decode kY_TrustDeskModel_readRule.2.1 70 = .ok (.iconst 0, 1) := by decide +kernel
theorem d_TrustDeskModel_readRule_71 : decode kY_TrustDeskModel_readRule.2.1 71 = .ok (.goto 46, 3) := by decide +kernel
theorem d_TrustDeskModel_readRule_30 : decode kY_TrustDeskModel_readRule.2.1 30 = .ok (.aload_n 0, 1) := by decide +kernel
theorem d_TrustDeskModel_readRule_31 : decode kY_TrustDeskModel_readRule.2.1 31 = .ok (.iconst 4, 1) := by decide +kernel
theorem d_TrustDeskModel_readRule_32 : decode kY_TrustDeskModel_readRule.2.1 32 = .ok (.invokevirtual 240, 3) := by decide +kernel
theorem d_TrustDeskModel_readRule_10 : decode kY_TrustDeskModel_readRule.2.1 10 = .ok (.aload_n 0, 1) := by decide +kernel
theorem d_TrustDeskModel_readRule_11 : decode kY_TrustDeskModel_readRule.2.1 11 = .ok (.iconst 1, 1) := by decide +kernel
theorem d_TrustDeskModel_readRule_12 : decode kY_TrustDeskModel_readRule.2.1 12 = .ok (.invokevirtual 240, 3) := by decide +kernel
theorem d_TrustDeskModel_readRule_15 : decode kY_TrustDeskModel_readRule.2.1 15 = .ok (.goto 20, 3) := by decide +kernel
def w_TrustDeskModel_readRule_x : List Nat := [1315, 1316, 1317, 1318, 1319, 1320, 1322, 20004, 20005, 20006, 20007, 20008, 20010, 20011, 20012]
set_option maxHeartbeats 100000000 in theorem tc_TrustDeskModel_readRule_x {g : mj_G} {l : Launch} {d : Nat} {T0 : tm_H} {M0 : mj_M} {n0 x9 : Nat} {o0 : Nat} (h_o0 : T0 o0 = some (0, 13, 0)) (yR : rI M0 o0) (yWW : rW M0 o0) (yw : rv M0 o0 19 = 0) (yo : rv M0 o0 17 ≠ 0) (yq : rv M0 o0 22 = 0) {pb : Nat → Int} {pn : Nat} {pa : Int} {ps : p_S} (yO : pO M0 o0 pb pn pa ps) {pc9 : Nat} (yk : ra M0 o0 6 44 = (pc9 : Int)) (I0 : tm_I tm_FT (tm_in w_TrustDeskModel_readRule_x) x9 T0 M0 n0 T0 M0 n0) : mj_Met g l kY_TrustDeskModel_readRule (d + 25) [.ref o0] M0 n0 0 0 (tm_Q tm_FT (tm_in w_TrustDeskModel_readRule_x) x9 T0 M0 n0 (fun r _ M => r = none ∧ rI M o0 ∧ (rW M o0) ∧ (rO M0 M o0) ∧ (rv M0 o0 16 ≤ rv M o0 16 ∧ (rv M o0 19 = 0 → rv M0 o0 16 < rv M o0 16)) ∧ (rv M o0 19 = 0 → rv M o0 22 = 0) ∧ (pO M o0 pb pn pa (p_rul pb pn pa pc9 ps)) ∧ (rv M o0 19 = 0 → ra M o0 6 44 = (pc9 : Int) + 1))) := by
  refine mj_enter (by decide) (Nat.le_of_ble_eq_true rfl) ?_
  have yT := yWW.1
  have yS : rv M0 o0 19 = 0 → ra M0 o0 5 44 ≤ rv M0 o0 16 := fun h9 => (yWW.2 h9).1
  have yG := (yWW.2 yw).2
  have yN := yG.2.2
  have := yR.2 6 _ _ rfl 44
  have yE0 := rE.rf yT
  have K1 : rK M0 M0 o0 ((880 + ra M0 o0 6 44).toNat) := rK.rf
  have K2 : nN M0 o0 := yN
  have := yO.w
  refine mv_aload_n d_TrustDeskModel_readRule_0 rfl rfl ?_
  obtain ⟨_, b9, -⟩ := I0.1 _ _ h_o0
  refine mv_callV (kc' := 0) (ks' := 0) (As := []) (st9 := [.ref o0]) d_TrustDeskModel_readRule_1 lV_TrustDeskModel_365 b9 rfl (tc_TrustDeskModel_ruleWord_x (d := (d + 19)) (x9 := x9) (o0 := o0) h_o0 yR yO (by have := yR.1 15 _ _ rfl; have := yR.1 16 _ _ rfl; have := yR.1 19 _ _ rfl; omega) I0.start) rfl (Nat.le_of_ble_eq_true rfl) (Nat.le_of_ble_eq_true rfl) (Nat.le_of_ble_eq_true rfl) (hst := rfl) (fun b3r M4 n5 b3 => ?_)
  obtain ⟨T6, J7, v10, rfl, R11, f12, f13⟩ := b3
  have I8 := I0.call J7 (tm_sub (by decide)) (Or.inl rfl)
  have t14 := J7.up h_o0
  have z15 := (rv_c I0 J7 (I0.up h_o0) (k := 15) rfl)
  have z16 := (rv_c I0 J7 (I0.up h_o0) (k := 16) rfl)
  have z17 := (rv_c I0 J7 (I0.up h_o0) (k := 17) rfl)
  have z18 := (rv_c I0 J7 (I0.up h_o0) (k := 19) rfl)
  have z19 := (rv_c I0 J7 (I0.up h_o0) (k := 22) rfl)
  have z20 := (rv_c I0 J7 (I0.up h_o0) (k := 24) rfl)
  have z21 := (ra_call I0 J7 (I0.up h_o0) (k := 5) rfl rfl rfl 44)
  have z22 := (ra_call I0 J7 (I0.up h_o0) (k := 6) rfl rfl rfl 44)
  have E23 : rE M0 M4 o0 0 0 := yE0.same (rE_hv I0 J7 (I0.up h_o0) 15 19 (by decide)) (rE_ha I0 J7 (I0.up h_o0) (by decide))
  have K24 : rK M0 M4 o0 ((880 + ra M0 o0 6 44).toNat) := K1.same (sA_c I0 J7 (I0.up h_o0) (by decide +kernel))
  have K25 : nN M4 o0 := K2.same (sA_c I0 J7 (I0.up h_o0) (by decide +kernel)) (sF_c I0 J7 (I0.up h_o0) (by decide +kernel))
  have Z926 : pO M4 o0 pb pn pa ps := yO.same (rE_hv I0 J7 (I0.up h_o0) 14 20 (by decide)) (rv_c I0 J7 (I0.up h_o0) (k := 23) rfl) (ra_call I0 J7 (I0.up h_o0) (k := 13) rfl rfl rfl)
  refine mv_istore_n (lv' := [(1, .int v10), (0, .ref o0)]) d_TrustDeskModel_readRule_4 rfl (by decide) rfl ?_
  refine mv_iload_n d_TrustDeskModel_readRule_5 rfl rfl ?_
  refine mv_iconst (v := (-1)) d_TrustDeskModel_readRule_6 (by decide) ?_
  have := mz_hi v10
  refine mv_icmp_neZ (tgt := 18) (a := v10.toInt) (b := (-1)) d_TrustDeskModel_readRule_7 (by decide) rfl (by decide) (fun b27 => ?_) (fun b27 => ?_)
  · refine mv_aload_n d_TrustDeskModel_readRule_18 rfl rfl ?_
    obtain ⟨a29, q28, t_a29⟩ := tm_atR I8 t14 (k := 6) rfl
    refine tr_getK q28 d_TrustDeskModel_readRule_19 f_TrustDeskModel_23_13 ?_
    refine mv_bipush (v := 44) d_TrustDeskModel_readRule_22 (by decide) ?_
    refine tr_ialdR (o := o0) (k := 6) I8 q28 t_a29 (by decide) d_TrustDeskModel_readRule_24 (by unfold vp_in; decide) (fun v30 e31 => ?_)
    have := R11.a (k := 6) rfl (44 : Int32).toNatClampNeg
    have : v30.toInt = ra M4 o0 6 44 := e31
    have : v30.toInt = _ := Eq.trans e31 z22
    refine mv_bipush (v := 20) d_TrustDeskModel_readRule_25 (by decide) ?_
    have := mz_hi v30
    refine mv_icmp_neZ (tgt := 35) (a := v30.toInt) (b := 20) d_TrustDeskModel_readRule_27 (by decide) rfl (by decide) (fun b32 => ?_) (fun b32 => ?_)
    · refine mv_aload_n d_TrustDeskModel_readRule_35 rfl rfl ?_
      obtain ⟨_, b33, -⟩ := I8.1 _ _ t14
      refine mv_callV (kc1 := 0) (ks1 := 0) (kc' := 0) (ks' := 0) (As := []) (st9 := [.ref o0]) d_TrustDeskModel_readRule_36 lV_TrustDeskModel_230 b33 rfl (mj_enter (by decide) (Nat.le_of_ble_eq_true rfl) ?_) rfl (Nat.le_of_ble_eq_true rfl) (Nat.le_of_ble_eq_true rfl) (Nat.le_of_ble_eq_true rfl) (hst := rfl) (fun _ _ _ h => h)
      refine mv_aload_n d_TrustDeskModel_isWell_0 rfl rfl ?_
      obtain ⟨v35, q34⟩ := tm_atI I8 t14 (k := 19) rfl
      refine tr_getK q34 d_TrustDeskModel_isWell_1 f_TrustDeskModel_224_13 ?_
      have := R11.f (k := 19) q34 rfl
      have := (tm_rv q34).symm.trans z18
      have := tm_rv q34
      have := mz_hi v35
      refine mv_if_neZ (tgt := 11) (a := v35.toInt) d_TrustDeskModel_isWell_4 (by decide) rfl (fun b36 => ?_) (fun b36 => ?_)
      · refine mv_iconst (v := 0) d_TrustDeskModel_isWell_11 (by decide) ?_
        refine mv_iret d_TrustDeskModel_isWell_12 rfl (by decide) ?_
        refine mv_if_ne_f (tgt := 43) d_TrustDeskModel_readRule_39 (by decide) (by decide) ?_
        exact mv_vret d_TrustDeskModel_readRule_42 rfl ⟨_, I8, rfl, R11, (rW.of E23.1 (E23.s yS (by decide)) (fun w9 => by skip; exact rG.step yG yR E23 w9 K24 (by have := yR.2 6 _ _ rfl 44; omega) (by have := R11.1 15 _ _ rfl; have := R11.1 16 _ _ rfl; have := R11.1 19 _ _ rfl; omega) (by have := R11.1 15 _ _ rfl; have := R11.1 16 _ _ rfl; have := R11.1 19 _ _ rfl; omega) (fun h9 => by exfalso; have := R11.1 15 _ _ rfl; have := R11.1 16 _ _ rfl; have := R11.1 19 _ _ rfl; omega) (fun h9 => (by have := R11.1 15 _ _ rfl; have := R11.1 16 _ _ rfl; have := R11.1 19 _ _ rfl; omega)) (by have := R11.1 15 _ _ rfl; have := R11.1 16 _ _ rfl; have := R11.1 19 _ _ rfl; omega) K25)), (rO.of E23 K24 (by have := yR.2 6 _ _ rfl 44; omega)), ⟨E23.2.1, fun w9 => by skip; have := E23.w2 w9; omega⟩, (fun w9 => by skip; omega), (by first | (rw [show p_rul pb pn pa pc9 ps = ps from (by unfold p_rul; unfold p_bar; (try simp only [eq_self]); ((repeat' (first | (with_reducible rfl) | split)) <;> (first | ((try simp only [eq_self]); done) | ((try simp only [eq_self]); first | exact p_sg_Z _ (by omega) | exact (p_sg_Z _ (by omega)).symm | omega) | (exfalso; omega))))]; exact Z926) | (exfalso; have := R11.1 15 _ _ rfl; have := R11.1 16 _ _ rfl; have := R11.1 19 _ _ rfl; omega)), (fun w9 => by skip; omega)⟩
      · refine mv_iconst (v := 1) d_TrustDeskModel_isWell_7 (by decide) ?_
        refine mv_goto (tgt := 12) d_TrustDeskModel_isWell_8 (by decide) ?_
        refine mv_iret d_TrustDeskModel_isWell_12 rfl (by decide) ?_
        refine mv_if_ne_t (tgt := 43) d_TrustDeskModel_readRule_39 (by decide) (by decide) ?_
        refine mv_aload_n d_TrustDeskModel_readRule_43 rfl rfl ?_
        refine mv_iload_n d_TrustDeskModel_readRule_44 rfl rfl ?_
        obtain ⟨_, b43, -⟩ := I8.1 _ _ t14
        refine mv_callV (kc' := 0) (ks' := 0) (As := [.int v10]) (st9 := [.int v10, .ref o0]) d_TrustDeskModel_readRule_45 lV_TrustDeskModel_342 b43 rfl (tc_TrustDeskModel_begin_x (d := (d + 22)) (x9 := x9) (o0 := o0) (x1 := v10) t14 R11 E23.1 (E23.s yS (by decide)) (by have := R11.1 15 _ _ rfl; have := R11.1 16 _ _ rfl; have := R11.1 19 _ _ rfl; omega) (by have := R11.1 15 _ _ rfl; have := R11.1 16 _ _ rfl; have := R11.1 19 _ _ rfl; omega) (by have := R11.1 15 _ _ rfl; have := R11.1 16 _ _ rfl; have := R11.1 19 _ _ rfl; omega) Z926 I8.start) rfl (Nat.le_of_ble_eq_true rfl) (Nat.le_of_ble_eq_true rfl) (Nat.le_of_ble_eq_true rfl) (hst := rfl) (fun b37r M38 n39 b37 => ?_)
        obtain ⟨T40, J41, v44, rfl, R45, f46, f47, f48, f49, f50, f51, f52⟩ := b37
        have I42 := I8.call J41 (tm_sub (by decide)) (Or.inl rfl)
        have t53 := J41.up t14
        have := f46.2.1
        have f54 := Im.i f46.w.2
        have f55 := Im.i f46.w2
        have z56 := (rv_c I8 J41 (I8.up h_o0) (k := 19) rfl).trans z18
        have z57 := (rv_c I8 J41 (I8.up h_o0) (k := 22) rfl).trans z19
        have z58 := (rv_c I8 J41 (I8.up h_o0) (k := 24) rfl).trans z20
        have z59 := (ra_call I8 J41 (I8.up h_o0) (k := 5) rfl rfl rfl 44).trans z21
        have E60 : rE M0 M38 o0 0 1 := E23.trans f46 (by decide) (yR.2 5 _ _ rfl 44).1 (by decide) (by decide)
        have h61 : (880 + ra M4 o0 6 44).toNat = (880 + ra M0 o0 6 44).toNat := by omega
        rw [h61] at f49 f50 f51
        have K62 : rK M0 M38 o0 ((880 + ra M0 o0 6 44).toNat) := K24.trans f51
        have K63 : nN M38 o0 := K25.same (sA_c I8 J41 (I8.up h_o0) (by decide +kernel)) (sF_c I8 J41 (I8.up h_o0) (by decide +kernel))
        obtain ⟨s64, e65⟩ : ∃ s9 : p_S, p_nx ps = s9 := ⟨_, rfl⟩
        rw [e65] at f52
        have := f52.w
        clear z19 z20
        have q66 := J41.keep t14 (by decide) q28
        have t67 := J41.up t_a29
        have q68 := J41.keep t14 (by decide) q34
        refine mv_istore_n (lv' := [(2, .int v44), (1, .int v10), (0, .ref o0)]) d_TrustDeskModel_readRule_48 rfl (by decide) rfl ?_
        refine mv_iload_n d_TrustDeskModel_readRule_49 rfl rfl ?_
        refine mv_bipush (v := 6) d_TrustDeskModel_readRule_50 (by decide) ?_
        have := mz_hi v10
        refine mv_icmp_neZ (tgt := 171) (a := v10.toInt) (b := 6) d_TrustDeskModel_readRule_52 (by decide) rfl (by decide) (fun b69 => ?_) (fun b69 => ?_)
        · refine mv_iload_n d_TrustDeskModel_readRule_171 rfl rfl ?_
          refine mv_iconst (v := 1) d_TrustDeskModel_readRule_172 (by decide) ?_
          have := mz_hi v10
          refine mv_icmp_eqZ (tgt := 181) (a := v10.toInt) (b := 1) d_TrustDeskModel_readRule_173 (by decide) rfl (by decide) (fun b70 => ?_) (fun b70 => ?_)
          · refine mv_iconst (v := 0) d_TrustDeskModel_readRule_181 (by decide) ?_
            refine mv_goto (tgt := 186) d_TrustDeskModel_readRule_182 (by decide) ?_
            refine mv_istore_n (lv' := [(3, .int 0), (2, .int v44), (1, .int v10), (0, .ref o0)]) d_TrustDeskModel_readRule_186 rfl (by decide) rfl ?_
            refine mv_aload_n d_TrustDeskModel_readRule_187 rfl rfl ?_
            obtain ⟨a72, q71, t_a72⟩ := tm_atR I42 t53 (k := 8) rfl
            refine tr_getK q71 d_TrustDeskModel_readRule_188 f_TrustDeskModel_29_13 ?_
            refine mv_iload_n d_TrustDeskModel_readRule_191 rfl rfl ?_
            refine mv_aload_n d_TrustDeskModel_readRule_192 rfl rfl ?_
            refine mv_iload_n d_TrustDeskModel_readRule_193 rfl rfl ?_
            refine mv_iload_n d_TrustDeskModel_readRule_194 rfl rfl ?_
            have := mz_hi v10
            refine mv_if_neZ (tgt := 203) (a := v10.toInt) d_TrustDeskModel_readRule_195 (by decide) rfl (fun b73 => ?_) (fun b73 => absurd b73 (by omega))
            refine mv_iload_n d_TrustDeskModel_readRule_203 rfl rfl ?_
            refine mv_iconst (v := 1) d_TrustDeskModel_readRule_204 (by decide) ?_
            have := mz_hi v10
            refine mv_icmp_neZ (tgt := 213) (a := v10.toInt) (b := 1) d_TrustDeskModel_readRule_205 (by decide) rfl (by decide) (fun b74 => absurd b74 (by omega)) (fun b74 => ?_)
            refine mv_bipush (v := 8) d_TrustDeskModel_readRule_208 (by decide) ?_
            refine mv_goto (tgt := 247) d_TrustDeskModel_readRule_210 (by decide) ?_
            obtain ⟨_, b81, -⟩ := I42.1 _ _ t53
            have : (0 : Int32).toInt = 0 := by decide
            have : (8 : Int32).toInt = 8 := by decide
            refine mv_callV (kc' := 0) (ks' := 0) (As := [.int 0, .int 8]) (st9 := [.int 8, .int 0, .ref o0, .int v44, .ref a72]) d_TrustDeskModel_readRule_247 lV_TrustDeskModel_317 b81 rfl (tc_TrustDeskModel_number_x (d := (d + 22)) (x9 := x9) (o0 := o0) (x1 := 0) (x2 := 8) t53 R45 E60.1 (E60.s yS (by decide)) f52 I42.start) rfl (Nat.le_of_ble_eq_true rfl) (Nat.le_of_ble_eq_true rfl) (Nat.le_of_ble_eq_true rfl) (hst := rfl) (fun b75r M76 n77 b75 => ?_)
            obtain ⟨T78, J79, v82, rfl, R83, f84, f85, f86, f87⟩ := b75
            have I80 := I42.call J79 (tm_sub (by decide)) (Or.inl rfl)
            have t88 := J79.up t53
            have t89 := J79.up t_a72
            have := f84.2.1
            have f90 := Im.i f84.w.2
            have f91 := Im.i f84.w2
            replace f87 := Im.i f87
            have z92 := (rv_c I42 J79 (I42.up h_o0) (k := 22) rfl).trans z57
            have z93 := (rv_c I42 J79 (I42.up h_o0) (k := 24) rfl).trans z58
            have z94 := (ra_call I42 J79 (I42.up h_o0) (k := 5) rfl rfl rfl 44).trans z59
            have z95 := (ra_call I42 J79 (I42.up h_o0) (k := 6) rfl rfl rfl 44)
            have z96 := (ra_call I42 J79 (I42.up h_o0) (k := 7) rfl rfl rfl ((880 + ra M0 o0 6 44).toNat))
            have z97 := (ra_call I42 J79 (I42.up h_o0) (k := 10) rfl rfl rfl ((880 + ra M0 o0 6 44).toNat))
            have E98 : rE M0 M76 o0 0 2 := E60.trans f84 (by decide) (yR.2 5 _ _ rfl 44).1 (by decide) (by decide)
            have K99 : rK M0 M76 o0 ((880 + ra M0 o0 6 44).toNat) := K62.same (sA_c I42 J79 (I42.up h_o0) (by decide +kernel))
            have K100 : nN M76 o0 := K63.same (sA_c I42 J79 (I42.up h_o0) (by decide +kernel)) (sF_c I42 J79 (I42.up h_o0) (by decide +kernel))
            rw [show (0 : Int32).toInt = 0 from by decide] at f86
            rw [show (8 : Int32).toInt = 8 from by decide] at f86
            obtain ⟨s101, e102⟩ : ∃ s9 : p_S, p_num pb pn 0 8 s64 = s9 := ⟨_, rfl⟩
            rw [e102] at f86
            have := f86.w
            clear z57 z58 z59
            have q103 := J79.keep t53 (by decide) q66
            have t104 := J79.up t67
            have q105 := J79.keep t53 (by decide) q71
            refine tr_iastR (k := 8) I80 R83 (I80.up h_o0) q105 t89 (by decide) (by decide) (fun lo hi h => by cases h; have := R83.1 15 _ _ rfl; have := R83.1 16 _ _ rfl; have := R83.1 19 _ _ rfl; exact ⟨by show ((-1) : Int) ≤ v82.toInt; omega, by show v82.toInt ≤ (720 : Int); omega⟩) (Or.inl (by decide)) d_TrustDeskModel_readRule_250 (vp_in_iff.mpr (by have := R83.1 15 _ _ rfl; have := R83.1 16 _ _ rfl; have := R83.1 19 _ _ rfl; omega)) (fun M106 I107 K108 R109 E110 A111 V112 => ?_)
            have z113 := (V112 15)
            have z114 := (V112 16)
            have z115 := (V112 17)
            have z116 := (V112 19)
            have z117 := (V112 22).trans z92
            have z118 := (V112 24).trans z93
            have z119 := (A111 5 (by decide) rfl 44).trans z94
            have z120 := (A111 6 (by decide) rfl 44).trans z95
            have z121 := (A111 7 (by decide) rfl ((880 + ra M0 o0 6 44).toNat)).trans z96
            have z122 := (A111 10 (by decide) rfl ((880 + ra M0 o0 6 44).toNat)).trans z97
            have E123 : rE M0 M106 o0 0 2 := E98.same (fun k _ _ => V112 k) (fun k h1 h2 => A111 k (by omega) (by rcases (show k = 4 ∨ k = 5 by omega) with rfl | rfl <;> rfl))
            have h124 : (880 + ra M0 o0 6 44).toNat = v44.toNatClampNeg := by have := mz_nat9 (i := v44) (by have := R83.1 15 _ _ rfl; have := R83.1 16 _ _ rfl; have := R83.1 19 _ _ rfl; omega); have := R83.1 15 _ _ rfl; have := R83.1 16 _ _ rfl; have := R83.1 19 _ _ rfl; omega
            have z125 : ra M106 o0 8 ((880 + ra M0 o0 6 44).toNat) = v82.toInt := (E110 _).trans (if_pos h124)
            have K126 : rK M0 M106 o0 ((880 + ra M0 o0 6 44).toNat) := K99.st A111 E110 (by have := mz_nat9 (i := v44) (by have := R83.1 15 _ _ rfl; have := R83.1 16 _ _ rfl; have := R83.1 19 _ _ rfl; omega); have := R83.1 15 _ _ rfl; have := R83.1 16 _ _ rfl; have := R83.1 19 _ _ rfl; omega)
            have K127 : nN M106 o0 := K100.same (sA_a A111 (by decide +kernel)) (sF_a V112)
            have Z9128 : pO M106 o0 pb pn pa s101 := f86.same (fun k _ _ => V112 k) (V112 23) (A111 13 (by decide) rfl)
            clear z92 z93 z94 z95 z96 z97
            refine mv_aload_n d_TrustDeskModel_readRule_251 rfl rfl ?_
            refine mv_bipush (v := 59) d_TrustDeskModel_readRule_252 (by decide) ?_
            obtain ⟨_, b135, -⟩ := I107.1 _ _ t88
            have : (59 : Int32).toInt = 59 := by decide
            refine mv_callV (kc' := 0) (ks' := 0) (As := [.int 59]) (st9 := [.int 59, .ref o0]) d_TrustDeskModel_readRule_254 lV_TrustDeskModel_291 b135 rfl (tc_TrustDeskModel_wantSign_x (d := (d + 22)) (x9 := x9) (o0 := o0) (x1 := 59) t88 R109 E123.1 (E123.s yS (by decide)) (by decide) Z9128 I107.start) rfl (Nat.le_of_ble_eq_true rfl) (Nat.le_of_ble_eq_true rfl) (Nat.le_of_ble_eq_true rfl) (hst := rfl) (fun b129r M130 n131 b129 => ?_)
            obtain ⟨T132, J133, rfl, R136, f137, f138⟩ := b129
            have I134 := I107.call J133 (tm_sub (by decide)) (Or.inl rfl)
            have t139 := J133.up t88
            have := f137.2.1
            have f140 := Im.i f137.w.2
            have f141 := Im.i f137.w2
            have z142 := (rv_c I107 J133 (I107.up h_o0) (k := 22) rfl).trans z117
            have z143 := (rv_c I107 J133 (I107.up h_o0) (k := 24) rfl).trans z118
            have z144 := (ra_call I107 J133 (I107.up h_o0) (k := 5) rfl rfl rfl 44).trans z119
            have z145 := (ra_call I107 J133 (I107.up h_o0) (k := 6) rfl rfl rfl 44).trans z120
            have z146 := (ra_call I107 J133 (I107.up h_o0) (k := 7) rfl rfl rfl ((880 + ra M0 o0 6 44).toNat)).trans z121
            have z147 := (ra_call I107 J133 (I107.up h_o0) (k := 10) rfl rfl rfl ((880 + ra M0 o0 6 44).toNat)).trans z122
            have z148 := (ra_call I107 J133 (I107.up h_o0) (k := 8) rfl rfl rfl ((880 + ra M0 o0 6 44).toNat)).trans z125
            have E149 : rE M0 M130 o0 0 3 := E123.trans f137 (by decide) (yR.2 5 _ _ rfl 44).1 (by decide) (by decide)
            have K150 : rK M0 M130 o0 ((880 + ra M0 o0 6 44).toNat) := K126.same (sA_c I107 J133 (I107.up h_o0) (by decide +kernel))
            have K151 : nN M130 o0 := K127.same (sA_c I107 J133 (I107.up h_o0) (by decide +kernel)) (sF_c I107 J133 (I107.up h_o0) (by decide +kernel))
            rw [show (59 : Int32).toInt = 59 from by decide] at f138
            obtain ⟨s152, e153⟩ : ∃ s9 : p_S, p_sg pb pn 59 s101 = s9 := ⟨_, rfl⟩
            rw [e153] at f138
            have := f138.w
            clear z117 z118 z119 z120 z121 z122 z125
            have q154 := J133.keep t88 (by decide) (K108 _ 13 6 _ q103)
            have t155 := J133.up t104
            have q156 := J133.keep t88 (by decide) (K108 _ 13 8 _ q105)
            have t157 := J133.up t89
            refine mv_aload_n d_TrustDeskModel_readRule_257 rfl rfl ?_
            obtain ⟨a159, q158, t_a159⟩ := tm_atR I134 t139 (k := 12) rfl
            refine tr_getK q158 d_TrustDeskModel_readRule_258 f_TrustDeskModel_41_13 ?_
            refine mv_iload_n d_TrustDeskModel_readRule_261 rfl rfl ?_
            refine mv_aload_n d_TrustDeskModel_readRule_262 rfl rfl ?_
            obtain ⟨a161, q160, t_a161⟩ := tm_atR I134 t139 (k := 5) rfl
            refine tr_getK q160 d_TrustDeskModel_readRule_263 f_TrustDeskModel_20_13 ?_
            refine mv_bipush (v := 44) d_TrustDeskModel_readRule_266 (by decide) ?_
            refine tr_ialdR (o := o0) (k := 5) I134 q160 t_a161 (by decide) d_TrustDeskModel_readRule_268 (by unfold vp_in; decide) (fun v162 e163 => ?_)
            have := R136.a (k := 5) rfl (44 : Int32).toNatClampNeg
            have : v162.toInt = ra M130 o0 5 44 := e163
            have : v162.toInt = _ := Eq.trans e163 z144
            refine tr_iastR (k := 12) I134 R136 (I134.up h_o0) q158 t_a159 (by decide) (by decide) (fun lo hi h => by cases h; have := R136.1 15 _ _ rfl; have := R136.1 16 _ _ rfl; have := R136.1 19 _ _ rfl; exact ⟨by show (0 : Int) ≤ v162.toInt; omega, by show v162.toInt ≤ (400 : Int); omega⟩) (Or.inl (by decide)) d_TrustDeskModel_readRule_269 (vp_in_iff.mpr (by have := R136.1 15 _ _ rfl; have := R136.1 16 _ _ rfl; have := R136.1 19 _ _ rfl; omega)) (fun M164 I165 K166 R167 E168 A169 V170 => ?_)
            have z171 := (V170 15)
            have z172 := (V170 16)
            have z173 := (V170 17)
            have z174 := (V170 19)
            have z175 := (V170 22).trans z142
            have z176 := (V170 24).trans z143
            have z177 := (A169 5 (by decide) rfl 44).trans z144
            have z178 := (A169 6 (by decide) rfl 44).trans z145
            have z179 := (A169 7 (by decide) rfl ((880 + ra M0 o0 6 44).toNat)).trans z146
            have z180 := (A169 10 (by decide) rfl ((880 + ra M0 o0 6 44).toNat)).trans z147
            have z181 := (A169 8 (by decide) rfl ((880 + ra M0 o0 6 44).toNat)).trans z148
            have E182 : rE M0 M164 o0 0 3 := E149.same (fun k _ _ => V170 k) (fun k h1 h2 => A169 k (by omega) (by rcases (show k = 4 ∨ k = 5 by omega) with rfl | rfl <;> rfl))
            have h183 : (880 + ra M0 o0 6 44).toNat = v44.toNatClampNeg := by have := mz_nat9 (i := v44) (by have := R136.1 15 _ _ rfl; have := R136.1 16 _ _ rfl; have := R136.1 19 _ _ rfl; omega); have := R136.1 15 _ _ rfl; have := R136.1 16 _ _ rfl; have := R136.1 19 _ _ rfl; omega
            have z184 : ra M164 o0 12 ((880 + ra M0 o0 6 44).toNat) = v162.toInt := (E168 _).trans (if_pos h183)
            have K185 : rK M0 M164 o0 ((880 + ra M0 o0 6 44).toNat) := K150.st A169 E168 (by have := mz_nat9 (i := v44) (by have := R136.1 15 _ _ rfl; have := R136.1 16 _ _ rfl; have := R136.1 19 _ _ rfl; omega); have := R136.1 15 _ _ rfl; have := R136.1 16 _ _ rfl; have := R136.1 19 _ _ rfl; omega)
            have K186 : nN M164 o0 := K151.same (sA_a A169 (by decide +kernel)) (sF_a V170)
            have Z9187 : pO M164 o0 pb pn pa s152 := f138.same (fun k _ _ => V170 k) (V170 23) (A169 13 (by decide) rfl)
            clear z142 z143 z144 z145 z146 z147 z148
            exact mv_vret d_TrustDeskModel_readRule_270 rfl ⟨_, I165, rfl, R167, (rW.of E182.1 (E182.s yS (by decide)) (fun w9 => by have u91 : rv M130 o0 19 = 0 := (by omega); have := f140.o u91; have := f141.o u91; have u92 : rv M76 o0 19 = 0 := (by omega); have := f90.o u92; have := f91.o u92; have := f87.o u92; have u93 : rv M38 o0 19 = 0 := (by omega); have := f54.o u93; have := f55.o u93; exact rG.step yG yR E182 w9 K185 (by have := yR.2 6 _ _ rfl 44; omega) (by have := R167.1 15 _ _ rfl; have := R167.1 16 _ _ rfl; have := R167.1 19 _ _ rfl; omega) (by have := R167.1 15 _ _ rfl; have := R167.1 16 _ _ rfl; have := R167.1 19 _ _ rfl; omega) (fun h9 => by exfalso; have := R167.1 15 _ _ rfl; have := R167.1 16 _ _ rfl; have := R167.1 19 _ _ rfl; omega) (fun h9 => (by have := R167.1 15 _ _ rfl; have := R167.1 16 _ _ rfl; have := R167.1 19 _ _ rfl; omega)) (by have := R167.1 15 _ _ rfl; have := R167.1 16 _ _ rfl; have := R167.1 19 _ _ rfl; omega) K186)), (rO.of E182 K185 (by have := yR.2 6 _ _ rfl 44; omega)), ⟨E182.2.1, fun w9 => by skip; have := E182.w2 w9; omega⟩, (fun w9 => by have u91 : rv M130 o0 19 = 0 := (by omega); have := f140.o u91; have := f141.o u91; have u92 : rv M76 o0 19 = 0 := (by omega); have := f90.o u92; have := f91.o u92; have := f87.o u92; have u93 : rv M38 o0 19 = 0 := (by omega); have := f54.o u93; have := f55.o u93; omega), (by first | (have hlo : p_lo (p_wi pb pn ps.2.2) = 0 := (by unfold p_lo; split <;> omega); have hhi : p_hi (p_wi pb pn ps.2.2) = 8 := (by unfold p_hi; (repeat' split) <;> omega); rw [show p_rul pb pn pa pc9 ps = s152 from (by unfold p_rul; unfold p_bar; rw [hlo, hhi]; (try simp only [e65, e102, e153]); ((repeat' (first | (with_reducible rfl) | split)) <;> (first | ((try simp only [e65, e102, e153]); done) | ((try simp only [e65, e102, e153]); first | exact p_sg_Z _ (by omega) | exact (p_sg_Z _ (by omega)).symm | omega) | (exfalso; omega))))]; exact Z9187) | (exfalso; have := R167.1 15 _ _ rfl; have := R167.1 16 _ _ rfl; have := R167.1 19 _ _ rfl; omega)), (fun w9 => by have u91 : rv M130 o0 19 = 0 := (by omega); have := f140.o u91; have := f141.o u91; have u92 : rv M76 o0 19 = 0 := (by omega); have := f90.o u92; have := f91.o u92; have := f87.o u92; have u93 : rv M38 o0 19 = 0 := (by omega); have := f54.o u93; have := f55.o u93; omega)⟩
          · refine mv_iload_n d_TrustDeskModel_readRule_176 rfl rfl ?_
            refine mv_iconst (v := 4) d_TrustDeskModel_readRule_177 (by decide) ?_
            have := mz_hi v10
            refine mv_icmp_neZ (tgt := 185) (a := v10.toInt) (b := 4) d_TrustDeskModel_readRule_178 (by decide) rfl (by decide) (fun b188 => ?_) (fun b188 => ?_)
            · refine mv_iconst (v := 1) d_TrustDeskModel_readRule_185 (by decide) ?_
              refine mv_istore_n (lv' := [(3, .int 1), (2, .int v44), (1, .int v10), (0, .ref o0)]) d_TrustDeskModel_readRule_186 rfl (by decide) rfl ?_
              refine mv_aload_n d_TrustDeskModel_readRule_187 rfl rfl ?_
              obtain ⟨a190, q189, t_a190⟩ := tm_atR I42 t53 (k := 8) rfl
              refine tr_getK q189 d_TrustDeskModel_readRule_188 f_TrustDeskModel_29_13 ?_
              refine mv_iload_n d_TrustDeskModel_readRule_191 rfl rfl ?_
              refine mv_aload_n d_TrustDeskModel_readRule_192 rfl rfl ?_
              refine mv_iload_n d_TrustDeskModel_readRule_193 rfl rfl ?_
              refine mv_iload_n d_TrustDeskModel_readRule_194 rfl rfl ?_
              have := mz_hi v10
              refine mv_if_neZ (tgt := 203) (a := v10.toInt) d_TrustDeskModel_readRule_195 (by decide) rfl (fun b191 => ?_) (fun b191 => ?_)
              · refine mv_iload_n d_TrustDeskModel_readRule_203 rfl rfl ?_
                refine mv_iconst (v := 1) d_TrustDeskModel_readRule_204 (by decide) ?_
                have := mz_hi v10
                refine mv_icmp_neZ (tgt := 213) (a := v10.toInt) (b := 1) d_TrustDeskModel_readRule_205 (by decide) rfl (by decide) (fun b192 => ?_) (fun b192 => absurd b192 (by omega))
                refine mv_iload_n d_TrustDeskModel_readRule_213 rfl rfl ?_
                refine mv_iconst (v := 2) d_TrustDeskModel_readRule_214 (by decide) ?_
                have := mz_hi v10
                refine mv_icmp_neZ (tgt := 224) (a := v10.toInt) (b := 2) d_TrustDeskModel_readRule_215 (by decide) rfl (by decide) (fun b193 => ?_) (fun b193 => ?_)
                · refine mv_iload_n d_TrustDeskModel_readRule_224 rfl rfl ?_
                  refine mv_iconst (v := 3) d_TrustDeskModel_readRule_225 (by decide) ?_
                  have := mz_hi v10
                  refine mv_icmp_neZ (tgt := 235) (a := v10.toInt) (b := 3) d_TrustDeskModel_readRule_226 (by decide) rfl (by decide) (fun b194 => ?_) (fun b194 => ?_)
                  · refine mv_iload_n d_TrustDeskModel_readRule_235 rfl rfl ?_
                    refine mv_iconst (v := 4) d_TrustDeskModel_readRule_236 (by decide) ?_
                    have := mz_hi v10
                    refine mv_icmp_neZ (tgt := 245) (a := v10.toInt) (b := 4) d_TrustDeskModel_readRule_237 (by decide) rfl (by decide) (fun b195 => ?_) (fun b195 => absurd b195 (by omega))
                    refine mv_bipush (v := 40) d_TrustDeskModel_readRule_245 (by decide) ?_
                    obtain ⟨_, b202, -⟩ := I42.1 _ _ t53
                    have : (1 : Int32).toInt = 1 := by decide
                    have : (40 : Int32).toInt = 40 := by decide
                    refine mv_callV (kc' := 0) (ks' := 0) (As := [.int 1, .int 40]) (st9 := [.int 40, .int 1, .ref o0, .int v44, .ref a190]) d_TrustDeskModel_readRule_247 lV_TrustDeskModel_317 b202 rfl (tc_TrustDeskModel_number_x (d := (d + 22)) (x9 := x9) (o0 := o0) (x1 := 1) (x2 := 40) t53 R45 E60.1 (E60.s yS (by decide)) f52 I42.start) rfl (Nat.le_of_ble_eq_true rfl) (Nat.le_of_ble_eq_true rfl) (Nat.le_of_ble_eq_true rfl) (hst := rfl) (fun b196r M197 n198 b196 => ?_)
                    obtain ⟨T199, J200, v203, rfl, R204, f205, f206, f207, f208⟩ := b196
                    have I201 := I42.call J200 (tm_sub (by decide)) (Or.inl rfl)
                    have t209 := J200.up t53
                    have t210 := J200.up t_a190
                    have := f205.2.1
                    have f211 := Im.i f205.w.2
                    have f212 := Im.i f205.w2
                    replace f208 := Im.i f208
                    have z213 := (rv_c I42 J200 (I42.up h_o0) (k := 22) rfl).trans z57
                    have z214 := (rv_c I42 J200 (I42.up h_o0) (k := 24) rfl).trans z58
                    have z215 := (ra_call I42 J200 (I42.up h_o0) (k := 5) rfl rfl rfl 44).trans z59
                    have z216 := (ra_call I42 J200 (I42.up h_o0) (k := 6) rfl rfl rfl 44)
                    have z217 := (ra_call I42 J200 (I42.up h_o0) (k := 7) rfl rfl rfl ((880 + ra M0 o0 6 44).toNat))
                    have z218 := (ra_call I42 J200 (I42.up h_o0) (k := 10) rfl rfl rfl ((880 + ra M0 o0 6 44).toNat))
                    have E219 : rE M0 M197 o0 0 2 := E60.trans f205 (by decide) (yR.2 5 _ _ rfl 44).1 (by decide) (by decide)
                    have K220 : rK M0 M197 o0 ((880 + ra M0 o0 6 44).toNat) := K62.same (sA_c I42 J200 (I42.up h_o0) (by decide +kernel))
                    have K221 : nN M197 o0 := K63.same (sA_c I42 J200 (I42.up h_o0) (by decide +kernel)) (sF_c I42 J200 (I42.up h_o0) (by decide +kernel))
                    rw [show (1 : Int32).toInt = 1 from by decide] at f207
                    rw [show (40 : Int32).toInt = 40 from by decide] at f207
                    obtain ⟨s222, e223⟩ : ∃ s9 : p_S, p_num pb pn 1 40 s64 = s9 := ⟨_, rfl⟩
                    rw [e223] at f207
                    have := f207.w
                    clear z57 z58 z59
                    have q224 := J200.keep t53 (by decide) q66
                    have t225 := J200.up t67
                    have q226 := J200.keep t53 (by decide) q189
                    refine tr_iastR (k := 8) I201 R204 (I201.up h_o0) q226 t210 (by decide) (by decide) (fun lo hi h => by cases h; have := R204.1 15 _ _ rfl; have := R204.1 16 _ _ rfl; have := R204.1 19 _ _ rfl; exact ⟨by show ((-1) : Int) ≤ v203.toInt; omega, by show v203.toInt ≤ (720 : Int); omega⟩) (Or.inl (by decide)) d_TrustDeskModel_readRule_250 (vp_in_iff.mpr (by have := R204.1 15 _ _ rfl; have := R204.1 16 _ _ rfl; have := R204.1 19 _ _ rfl; omega)) (fun M227 I228 K229 R230 E231 A232 V233 => ?_)
                    have z234 := (V233 15)
                    have z235 := (V233 16)
                    have z236 := (V233 17)
                    have z237 := (V233 19)
                    have z238 := (V233 22).trans z213
                    have z239 := (V233 24).trans z214
                    have z240 := (A232 5 (by decide) rfl 44).trans z215
                    have z241 := (A232 6 (by decide) rfl 44).trans z216
                    have z242 := (A232 7 (by decide) rfl ((880 + ra M0 o0 6 44).toNat)).trans z217
                    have z243 := (A232 10 (by decide) rfl ((880 + ra M0 o0 6 44).toNat)).trans z218
                    have E244 : rE M0 M227 o0 0 2 := E219.same (fun k _ _ => V233 k) (fun k h1 h2 => A232 k (by omega) (by rcases (show k = 4 ∨ k = 5 by omega) with rfl | rfl <;> rfl))
                    have h245 : (880 + ra M0 o0 6 44).toNat = v44.toNatClampNeg := by have := mz_nat9 (i := v44) (by have := R204.1 15 _ _ rfl; have := R204.1 16 _ _ rfl; have := R204.1 19 _ _ rfl; omega); have := R204.1 15 _ _ rfl; have := R204.1 16 _ _ rfl; have := R204.1 19 _ _ rfl; omega
                    have z246 : ra M227 o0 8 ((880 + ra M0 o0 6 44).toNat) = v203.toInt := (E231 _).trans (if_pos h245)
                    have K247 : rK M0 M227 o0 ((880 + ra M0 o0 6 44).toNat) := K220.st A232 E231 (by have := mz_nat9 (i := v44) (by have := R204.1 15 _ _ rfl; have := R204.1 16 _ _ rfl; have := R204.1 19 _ _ rfl; omega); have := R204.1 15 _ _ rfl; have := R204.1 16 _ _ rfl; have := R204.1 19 _ _ rfl; omega)
                    have K248 : nN M227 o0 := K221.same (sA_a A232 (by decide +kernel)) (sF_a V233)
                    have Z9249 : pO M227 o0 pb pn pa s222 := f207.same (fun k _ _ => V233 k) (V233 23) (A232 13 (by decide) rfl)
                    clear z213 z214 z215 z216 z217 z218
                    refine mv_aload_n d_TrustDeskModel_readRule_251 rfl rfl ?_
                    refine mv_bipush (v := 59) d_TrustDeskModel_readRule_252 (by decide) ?_
                    obtain ⟨_, b256, -⟩ := I228.1 _ _ t209
                    have : (59 : Int32).toInt = 59 := by decide
                    refine mv_callV (kc' := 0) (ks' := 0) (As := [.int 59]) (st9 := [.int 59, .ref o0]) d_TrustDeskModel_readRule_254 lV_TrustDeskModel_291 b256 rfl (tc_TrustDeskModel_wantSign_x (d := (d + 22)) (x9 := x9) (o0 := o0) (x1 := 59) t209 R230 E244.1 (E244.s yS (by decide)) (by decide) Z9249 I228.start) rfl (Nat.le_of_ble_eq_true rfl) (Nat.le_of_ble_eq_true rfl) (Nat.le_of_ble_eq_true rfl) (hst := rfl) (fun b250r M251 n252 b250 => ?_)
                    obtain ⟨T253, J254, rfl, R257, f258, f259⟩ := b250
                    have I255 := I228.call J254 (tm_sub (by decide)) (Or.inl rfl)
                    have t260 := J254.up t209
                    have := f258.2.1
                    have f261 := Im.i f258.w.2
                    have f262 := Im.i f258.w2
                    have z263 := (rv_c I228 J254 (I228.up h_o0) (k := 22) rfl).trans z238
                    have z264 := (rv_c I228 J254 (I228.up h_o0) (k := 24) rfl).trans z239
                    have z265 := (ra_call I228 J254 (I228.up h_o0) (k := 5) rfl rfl rfl 44).trans z240
                    have z266 := (ra_call I228 J254 (I228.up h_o0) (k := 6) rfl rfl rfl 44).trans z241
                    have z267 := (ra_call I228 J254 (I228.up h_o0) (k := 7) rfl rfl rfl ((880 + ra M0 o0 6 44).toNat)).trans z242
                    have z268 := (ra_call I228 J254 (I228.up h_o0) (k := 10) rfl rfl rfl ((880 + ra M0 o0 6 44).toNat)).trans z243
                    have z269 := (ra_call I228 J254 (I228.up h_o0) (k := 8) rfl rfl rfl ((880 + ra M0 o0 6 44).toNat)).trans z246
                    have E270 : rE M0 M251 o0 0 3 := E244.trans f258 (by decide) (yR.2 5 _ _ rfl 44).1 (by decide) (by decide)
                    have K271 : rK M0 M251 o0 ((880 + ra M0 o0 6 44).toNat) := K247.same (sA_c I228 J254 (I228.up h_o0) (by decide +kernel))
                    have K272 : nN M251 o0 := K248.same (sA_c I228 J254 (I228.up h_o0) (by decide +kernel)) (sF_c I228 J254 (I228.up h_o0) (by decide +kernel))
                    rw [show (59 : Int32).toInt = 59 from by decide] at f259
                    obtain ⟨s273, e274⟩ : ∃ s9 : p_S, p_sg pb pn 59 s222 = s9 := ⟨_, rfl⟩
                    rw [e274] at f259
                    have := f259.w
                    clear z238 z239 z240 z241 z242 z243 z246
                    have q275 := J254.keep t209 (by decide) (K229 _ 13 6 _ q224)
                    have t276 := J254.up t225
                    have q277 := J254.keep t209 (by decide) (K229 _ 13 8 _ q226)
                    have t278 := J254.up t210
                    refine mv_aload_n d_TrustDeskModel_readRule_257 rfl rfl ?_
                    obtain ⟨a280, q279, t_a280⟩ := tm_atR I255 t260 (k := 12) rfl
                    refine tr_getK q279 d_TrustDeskModel_readRule_258 f_TrustDeskModel_41_13 ?_
                    refine mv_iload_n d_TrustDeskModel_readRule_261 rfl rfl ?_
                    refine mv_aload_n d_TrustDeskModel_readRule_262 rfl rfl ?_
                    obtain ⟨a282, q281, t_a282⟩ := tm_atR I255 t260 (k := 5) rfl
                    refine tr_getK q281 d_TrustDeskModel_readRule_263 f_TrustDeskModel_20_13 ?_
                    refine mv_bipush (v := 44) d_TrustDeskModel_readRule_266 (by decide) ?_
                    refine tr_ialdR (o := o0) (k := 5) I255 q281 t_a282 (by decide) d_TrustDeskModel_readRule_268 (by unfold vp_in; decide) (fun v283 e284 => ?_)
                    have := R257.a (k := 5) rfl (44 : Int32).toNatClampNeg
                    have : v283.toInt = ra M251 o0 5 44 := e284
                    have : v283.toInt = _ := Eq.trans e284 z265
                    refine tr_iastR (k := 12) I255 R257 (I255.up h_o0) q279 t_a280 (by decide) (by decide) (fun lo hi h => by cases h; have := R257.1 15 _ _ rfl; have := R257.1 16 _ _ rfl; have := R257.1 19 _ _ rfl; exact ⟨by show (0 : Int) ≤ v283.toInt; omega, by show v283.toInt ≤ (400 : Int); omega⟩) (Or.inl (by decide)) d_TrustDeskModel_readRule_269 (vp_in_iff.mpr (by have := R257.1 15 _ _ rfl; have := R257.1 16 _ _ rfl; have := R257.1 19 _ _ rfl; omega)) (fun M285 I286 K287 R288 E289 A290 V291 => ?_)
                    have z292 := (V291 15)
                    have z293 := (V291 16)
                    have z294 := (V291 17)
                    have z295 := (V291 19)
                    have z296 := (V291 22).trans z263
                    have z297 := (V291 24).trans z264
                    have z298 := (A290 5 (by decide) rfl 44).trans z265
                    have z299 := (A290 6 (by decide) rfl 44).trans z266
                    have z300 := (A290 7 (by decide) rfl ((880 + ra M0 o0 6 44).toNat)).trans z267
                    have z301 := (A290 10 (by decide) rfl ((880 + ra M0 o0 6 44).toNat)).trans z268
                    have z302 := (A290 8 (by decide) rfl ((880 + ra M0 o0 6 44).toNat)).trans z269
                    have E303 : rE M0 M285 o0 0 3 := E270.same (fun k _ _ => V291 k) (fun k h1 h2 => A290 k (by omega) (by rcases (show k = 4 ∨ k = 5 by omega) with rfl | rfl <;> rfl))
                    have h304 : (880 + ra M0 o0 6 44).toNat = v44.toNatClampNeg := by have := mz_nat9 (i := v44) (by have := R257.1 15 _ _ rfl; have := R257.1 16 _ _ rfl; have := R257.1 19 _ _ rfl; omega); have := R257.1 15 _ _ rfl; have := R257.1 16 _ _ rfl; have := R257.1 19 _ _ rfl; omega
                    have z305 : ra M285 o0 12 ((880 + ra M0 o0 6 44).toNat) = v283.toInt := (E289 _).trans (if_pos h304)
                    have K306 : rK M0 M285 o0 ((880 + ra M0 o0 6 44).toNat) := K271.st A290 E289 (by have := mz_nat9 (i := v44) (by have := R257.1 15 _ _ rfl; have := R257.1 16 _ _ rfl; have := R257.1 19 _ _ rfl; omega); have := R257.1 15 _ _ rfl; have := R257.1 16 _ _ rfl; have := R257.1 19 _ _ rfl; omega)
                    have K307 : nN M285 o0 := K272.same (sA_a A290 (by decide +kernel)) (sF_a V291)
                    have Z9308 : pO M285 o0 pb pn pa s273 := f259.same (fun k _ _ => V291 k) (V291 23) (A290 13 (by decide) rfl)
                    clear z263 z264 z265 z266 z267 z268 z269
                    exact mv_vret d_TrustDeskModel_readRule_270 rfl ⟨_, I286, rfl, R288, (rW.of E303.1 (E303.s yS (by decide)) (fun w9 => by have u91 : rv M251 o0 19 = 0 := (by omega); have := f261.o u91; have := f262.o u91; have u92 : rv M197 o0 19 = 0 := (by omega); have := f211.o u92; have := f212.o u92; have := f208.o u92; have u93 : rv M38 o0 19 = 0 := (by omega); have := f54.o u93; have := f55.o u93; exact rG.step yG yR E303 w9 K306 (by have := yR.2 6 _ _ rfl 44; omega) (by have := R288.1 15 _ _ rfl; have := R288.1 16 _ _ rfl; have := R288.1 19 _ _ rfl; omega) (by have := R288.1 15 _ _ rfl; have := R288.1 16 _ _ rfl; have := R288.1 19 _ _ rfl; omega) (fun h9 => by exfalso; have := R288.1 15 _ _ rfl; have := R288.1 16 _ _ rfl; have := R288.1 19 _ _ rfl; omega) (fun h9 => (by have := R288.1 15 _ _ rfl; have := R288.1 16 _ _ rfl; have := R288.1 19 _ _ rfl; omega)) (by have := R288.1 15 _ _ rfl; have := R288.1 16 _ _ rfl; have := R288.1 19 _ _ rfl; omega) K307)), (rO.of E303 K306 (by have := yR.2 6 _ _ rfl 44; omega)), ⟨E303.2.1, fun w9 => by skip; have := E303.w2 w9; omega⟩, (fun w9 => by have u91 : rv M251 o0 19 = 0 := (by omega); have := f261.o u91; have := f262.o u91; have u92 : rv M197 o0 19 = 0 := (by omega); have := f211.o u92; have := f212.o u92; have := f208.o u92; have u93 : rv M38 o0 19 = 0 := (by omega); have := f54.o u93; have := f55.o u93; omega), (by first | (have hlo : p_lo (p_wi pb pn ps.2.2) = 1 := (by unfold p_lo; split <;> omega); have hhi : p_hi (p_wi pb pn ps.2.2) = 40 := (by unfold p_hi; (repeat' split) <;> omega); rw [show p_rul pb pn pa pc9 ps = s273 from (by unfold p_rul; unfold p_bar; rw [hlo, hhi]; (try simp only [e65, e223, e274]); ((repeat' (first | (with_reducible rfl) | split)) <;> (first | ((try simp only [e65, e223, e274]); done) | ((try simp only [e65, e223, e274]); first | exact p_sg_Z _ (by omega) | exact (p_sg_Z _ (by omega)).symm | omega) | (exfalso; omega))))]; exact Z9308) | (exfalso; have := R288.1 15 _ _ rfl; have := R288.1 16 _ _ rfl; have := R288.1 19 _ _ rfl; omega)), (fun w9 => by have u91 : rv M251 o0 19 = 0 := (by omega); have := f261.o u91; have := f262.o u91; have u92 : rv M197 o0 19 = 0 := (by omega); have := f211.o u92; have := f212.o u92; have := f208.o u92; have u93 : rv M38 o0 19 = 0 := (by omega); have := f54.o u93; have := f55.o u93; omega)⟩
                  · refine mv_sipush (v := 720) d_TrustDeskModel_readRule_229 (by decide) ?_
                    refine mv_goto (tgt := 247) d_TrustDeskModel_readRule_232 (by decide) ?_
                    obtain ⟨_, b315, -⟩ := I42.1 _ _ t53
                    have : (1 : Int32).toInt = 1 := by decide
                    have : (720 : Int32).toInt = 720 := by decide
                    refine mv_callV (kc' := 0) (ks' := 0) (As := [.int 1, .int 720]) (st9 := [.int 720, .int 1, .ref o0, .int v44, .ref a190]) d_TrustDeskModel_readRule_247 lV_TrustDeskModel_317 b315 rfl (tc_TrustDeskModel_number_x (d := (d + 22)) (x9 := x9) (o0 := o0) (x1 := 1) (x2 := 720) t53 R45 E60.1 (E60.s yS (by decide)) f52 I42.start) rfl (Nat.le_of_ble_eq_true rfl) (Nat.le_of_ble_eq_true rfl) (Nat.le_of_ble_eq_true rfl) (hst := rfl) (fun b309r M310 n311 b309 => ?_)
                    obtain ⟨T312, J313, v316, rfl, R317, f318, f319, f320, f321⟩ := b309
                    have I314 := I42.call J313 (tm_sub (by decide)) (Or.inl rfl)
                    have t322 := J313.up t53
                    have t323 := J313.up t_a190
                    have := f318.2.1
                    have f324 := Im.i f318.w.2
                    have f325 := Im.i f318.w2
                    replace f321 := Im.i f321
                    have z326 := (rv_c I42 J313 (I42.up h_o0) (k := 22) rfl).trans z57
                    have z327 := (rv_c I42 J313 (I42.up h_o0) (k := 24) rfl).trans z58
                    have z328 := (ra_call I42 J313 (I42.up h_o0) (k := 5) rfl rfl rfl 44).trans z59
                    have z329 := (ra_call I42 J313 (I42.up h_o0) (k := 6) rfl rfl rfl 44)
                    have z330 := (ra_call I42 J313 (I42.up h_o0) (k := 7) rfl rfl rfl ((880 + ra M0 o0 6 44).toNat))
                    have z331 := (ra_call I42 J313 (I42.up h_o0) (k := 10) rfl rfl rfl ((880 + ra M0 o0 6 44).toNat))
                    have E332 : rE M0 M310 o0 0 2 := E60.trans f318 (by decide) (yR.2 5 _ _ rfl 44).1 (by decide) (by decide)
                    have K333 : rK M0 M310 o0 ((880 + ra M0 o0 6 44).toNat) := K62.same (sA_c I42 J313 (I42.up h_o0) (by decide +kernel))
                    have K334 : nN M310 o0 := K63.same (sA_c I42 J313 (I42.up h_o0) (by decide +kernel)) (sF_c I42 J313 (I42.up h_o0) (by decide +kernel))
                    rw [show (1 : Int32).toInt = 1 from by decide] at f320
                    rw [show (720 : Int32).toInt = 720 from by decide] at f320
                    obtain ⟨s335, e336⟩ : ∃ s9 : p_S, p_num pb pn 1 720 s64 = s9 := ⟨_, rfl⟩
                    rw [e336] at f320
                    have := f320.w
                    clear z57 z58 z59
                    have q337 := J313.keep t53 (by decide) q66
                    have t338 := J313.up t67
                    have q339 := J313.keep t53 (by decide) q189
                    refine tr_iastR (k := 8) I314 R317 (I314.up h_o0) q339 t323 (by decide) (by decide) (fun lo hi h => by cases h; have := R317.1 15 _ _ rfl; have := R317.1 16 _ _ rfl; have := R317.1 19 _ _ rfl; exact ⟨by show ((-1) : Int) ≤ v316.toInt; omega, by show v316.toInt ≤ (720 : Int); omega⟩) (Or.inl (by decide)) d_TrustDeskModel_readRule_250 (vp_in_iff.mpr (by have := R317.1 15 _ _ rfl; have := R317.1 16 _ _ rfl; have := R317.1 19 _ _ rfl; omega)) (fun M340 I341 K342 R343 E344 A345 V346 => ?_)
                    have z347 := (V346 15)
                    have z348 := (V346 16)
                    have z349 := (V346 17)
                    have z350 := (V346 19)
                    have z351 := (V346 22).trans z326
                    have z352 := (V346 24).trans z327
                    have z353 := (A345 5 (by decide) rfl 44).trans z328
                    have z354 := (A345 6 (by decide) rfl 44).trans z329
                    have z355 := (A345 7 (by decide) rfl ((880 + ra M0 o0 6 44).toNat)).trans z330
                    have z356 := (A345 10 (by decide) rfl ((880 + ra M0 o0 6 44).toNat)).trans z331
                    have E357 : rE M0 M340 o0 0 2 := E332.same (fun k _ _ => V346 k) (fun k h1 h2 => A345 k (by omega) (by rcases (show k = 4 ∨ k = 5 by omega) with rfl | rfl <;> rfl))
                    have h358 : (880 + ra M0 o0 6 44).toNat = v44.toNatClampNeg := by have := mz_nat9 (i := v44) (by have := R317.1 15 _ _ rfl; have := R317.1 16 _ _ rfl; have := R317.1 19 _ _ rfl; omega); have := R317.1 15 _ _ rfl; have := R317.1 16 _ _ rfl; have := R317.1 19 _ _ rfl; omega
                    have z359 : ra M340 o0 8 ((880 + ra M0 o0 6 44).toNat) = v316.toInt := (E344 _).trans (if_pos h358)
                    have K360 : rK M0 M340 o0 ((880 + ra M0 o0 6 44).toNat) := K333.st A345 E344 (by have := mz_nat9 (i := v44) (by have := R317.1 15 _ _ rfl; have := R317.1 16 _ _ rfl; have := R317.1 19 _ _ rfl; omega); have := R317.1 15 _ _ rfl; have := R317.1 16 _ _ rfl; have := R317.1 19 _ _ rfl; omega)
                    have K361 : nN M340 o0 := K334.same (sA_a A345 (by decide +kernel)) (sF_a V346)
                    have Z9362 : pO M340 o0 pb pn pa s335 := f320.same (fun k _ _ => V346 k) (V346 23) (A345 13 (by decide) rfl)
                    clear z326 z327 z328 z329 z330 z331
                    refine mv_aload_n d_TrustDeskModel_readRule_251 rfl rfl ?_
                    refine mv_bipush (v := 59) d_TrustDeskModel_readRule_252 (by decide) ?_
                    obtain ⟨_, b369, -⟩ := I341.1 _ _ t322
                    have : (59 : Int32).toInt = 59 := by decide
                    refine mv_callV (kc' := 0) (ks' := 0) (As := [.int 59]) (st9 := [.int 59, .ref o0]) d_TrustDeskModel_readRule_254 lV_TrustDeskModel_291 b369 rfl (tc_TrustDeskModel_wantSign_x (d := (d + 22)) (x9 := x9) (o0 := o0) (x1 := 59) t322 R343 E357.1 (E357.s yS (by decide)) (by decide) Z9362 I341.start) rfl (Nat.le_of_ble_eq_true rfl) (Nat.le_of_ble_eq_true rfl) (Nat.le_of_ble_eq_true rfl) (hst := rfl) (fun b363r M364 n365 b363 => ?_)
                    obtain ⟨T366, J367, rfl, R370, f371, f372⟩ := b363
                    have I368 := I341.call J367 (tm_sub (by decide)) (Or.inl rfl)
                    have t373 := J367.up t322
                    have := f371.2.1
                    have f374 := Im.i f371.w.2
                    have f375 := Im.i f371.w2
                    have z376 := (rv_c I341 J367 (I341.up h_o0) (k := 22) rfl).trans z351
                    have z377 := (rv_c I341 J367 (I341.up h_o0) (k := 24) rfl).trans z352
                    have z378 := (ra_call I341 J367 (I341.up h_o0) (k := 5) rfl rfl rfl 44).trans z353
                    have z379 := (ra_call I341 J367 (I341.up h_o0) (k := 6) rfl rfl rfl 44).trans z354
                    have z380 := (ra_call I341 J367 (I341.up h_o0) (k := 7) rfl rfl rfl ((880 + ra M0 o0 6 44).toNat)).trans z355
                    have z381 := (ra_call I341 J367 (I341.up h_o0) (k := 10) rfl rfl rfl ((880 + ra M0 o0 6 44).toNat)).trans z356
                    have z382 := (ra_call I341 J367 (I341.up h_o0) (k := 8) rfl rfl rfl ((880 + ra M0 o0 6 44).toNat)).trans z359
                    have E383 : rE M0 M364 o0 0 3 := E357.trans f371 (by decide) (yR.2 5 _ _ rfl 44).1 (by decide) (by decide)
                    have K384 : rK M0 M364 o0 ((880 + ra M0 o0 6 44).toNat) := K360.same (sA_c I341 J367 (I341.up h_o0) (by decide +kernel))
                    have K385 : nN M364 o0 := K361.same (sA_c I341 J367 (I341.up h_o0) (by decide +kernel)) (sF_c I341 J367 (I341.up h_o0) (by decide +kernel))
                    rw [show (59 : Int32).toInt = 59 from by decide] at f372
                    obtain ⟨s386, e387⟩ : ∃ s9 : p_S, p_sg pb pn 59 s335 = s9 := ⟨_, rfl⟩
                    rw [e387] at f372
                    have := f372.w
                    clear z351 z352 z353 z354 z355 z356 z359
                    have q388 := J367.keep t322 (by decide) (K342 _ 13 6 _ q337)
                    have t389 := J367.up t338
                    have q390 := J367.keep t322 (by decide) (K342 _ 13 8 _ q339)
                    have t391 := J367.up t323
                    refine mv_aload_n d_TrustDeskModel_readRule_257 rfl rfl ?_
                    obtain ⟨a393, q392, t_a393⟩ := tm_atR I368 t373 (k := 12) rfl
                    refine tr_getK q392 d_TrustDeskModel_readRule_258 f_TrustDeskModel_41_13 ?_
                    refine mv_iload_n d_TrustDeskModel_readRule_261 rfl rfl ?_
                    refine mv_aload_n d_TrustDeskModel_readRule_262 rfl rfl ?_
                    obtain ⟨a395, q394, t_a395⟩ := tm_atR I368 t373 (k := 5) rfl
                    refine tr_getK q394 d_TrustDeskModel_readRule_263 f_TrustDeskModel_20_13 ?_
                    refine mv_bipush (v := 44) d_TrustDeskModel_readRule_266 (by decide) ?_
                    refine tr_ialdR (o := o0) (k := 5) I368 q394 t_a395 (by decide) d_TrustDeskModel_readRule_268 (by unfold vp_in; decide) (fun v396 e397 => ?_)
                    have := R370.a (k := 5) rfl (44 : Int32).toNatClampNeg
                    have : v396.toInt = ra M364 o0 5 44 := e397
                    have : v396.toInt = _ := Eq.trans e397 z378
                    refine tr_iastR (k := 12) I368 R370 (I368.up h_o0) q392 t_a393 (by decide) (by decide) (fun lo hi h => by cases h; have := R370.1 15 _ _ rfl; have := R370.1 16 _ _ rfl; have := R370.1 19 _ _ rfl; exact ⟨by show (0 : Int) ≤ v396.toInt; omega, by show v396.toInt ≤ (400 : Int); omega⟩) (Or.inl (by decide)) d_TrustDeskModel_readRule_269 (vp_in_iff.mpr (by have := R370.1 15 _ _ rfl; have := R370.1 16 _ _ rfl; have := R370.1 19 _ _ rfl; omega)) (fun M398 I399 K400 R401 E402 A403 V404 => ?_)
                    have z405 := (V404 15)
                    have z406 := (V404 16)
                    have z407 := (V404 17)
                    have z408 := (V404 19)
                    have z409 := (V404 22).trans z376
                    have z410 := (V404 24).trans z377
                    have z411 := (A403 5 (by decide) rfl 44).trans z378
                    have z412 := (A403 6 (by decide) rfl 44).trans z379
                    have z413 := (A403 7 (by decide) rfl ((880 + ra M0 o0 6 44).toNat)).trans z380
                    have z414 := (A403 10 (by decide) rfl ((880 + ra M0 o0 6 44).toNat)).trans z381
                    have z415 := (A403 8 (by decide) rfl ((880 + ra M0 o0 6 44).toNat)).trans z382
                    have E416 : rE M0 M398 o0 0 3 := E383.same (fun k _ _ => V404 k) (fun k h1 h2 => A403 k (by omega) (by rcases (show k = 4 ∨ k = 5 by omega) with rfl | rfl <;> rfl))
                    have h417 : (880 + ra M0 o0 6 44).toNat = v44.toNatClampNeg := by have := mz_nat9 (i := v44) (by have := R370.1 15 _ _ rfl; have := R370.1 16 _ _ rfl; have := R370.1 19 _ _ rfl; omega); have := R370.1 15 _ _ rfl; have := R370.1 16 _ _ rfl; have := R370.1 19 _ _ rfl; omega
                    have z418 : ra M398 o0 12 ((880 + ra M0 o0 6 44).toNat) = v396.toInt := (E402 _).trans (if_pos h417)
                    have K419 : rK M0 M398 o0 ((880 + ra M0 o0 6 44).toNat) := K384.st A403 E402 (by have := mz_nat9 (i := v44) (by have := R370.1 15 _ _ rfl; have := R370.1 16 _ _ rfl; have := R370.1 19 _ _ rfl; omega); have := R370.1 15 _ _ rfl; have := R370.1 16 _ _ rfl; have := R370.1 19 _ _ rfl; omega)
                    have K420 : nN M398 o0 := K385.same (sA_a A403 (by decide +kernel)) (sF_a V404)
                    have Z9421 : pO M398 o0 pb pn pa s386 := f372.same (fun k _ _ => V404 k) (V404 23) (A403 13 (by decide) rfl)
                    clear z376 z377 z378 z379 z380 z381 z382
                    exact mv_vret d_TrustDeskModel_readRule_270 rfl ⟨_, I399, rfl, R401, (rW.of E416.1 (E416.s yS (by decide)) (fun w9 => by have u91 : rv M364 o0 19 = 0 := (by omega); have := f374.o u91; have := f375.o u91; have u92 : rv M310 o0 19 = 0 := (by omega); have := f324.o u92; have := f325.o u92; have := f321.o u92; have u93 : rv M38 o0 19 = 0 := (by omega); have := f54.o u93; have := f55.o u93; exact rG.step yG yR E416 w9 K419 (by have := yR.2 6 _ _ rfl 44; omega) (by have := R401.1 15 _ _ rfl; have := R401.1 16 _ _ rfl; have := R401.1 19 _ _ rfl; omega) (by have := R401.1 15 _ _ rfl; have := R401.1 16 _ _ rfl; have := R401.1 19 _ _ rfl; omega) (fun h9 => by exfalso; have := R401.1 15 _ _ rfl; have := R401.1 16 _ _ rfl; have := R401.1 19 _ _ rfl; omega) (fun h9 => (by have := R401.1 15 _ _ rfl; have := R401.1 16 _ _ rfl; have := R401.1 19 _ _ rfl; omega)) (by have := R401.1 15 _ _ rfl; have := R401.1 16 _ _ rfl; have := R401.1 19 _ _ rfl; omega) K420)), (rO.of E416 K419 (by have := yR.2 6 _ _ rfl 44; omega)), ⟨E416.2.1, fun w9 => by skip; have := E416.w2 w9; omega⟩, (fun w9 => by have u91 : rv M364 o0 19 = 0 := (by omega); have := f374.o u91; have := f375.o u91; have u92 : rv M310 o0 19 = 0 := (by omega); have := f324.o u92; have := f325.o u92; have := f321.o u92; have u93 : rv M38 o0 19 = 0 := (by omega); have := f54.o u93; have := f55.o u93; omega), (by first | (have hlo : p_lo (p_wi pb pn ps.2.2) = 1 := (by unfold p_lo; split <;> omega); have hhi : p_hi (p_wi pb pn ps.2.2) = 720 := (by unfold p_hi; (repeat' split) <;> omega); rw [show p_rul pb pn pa pc9 ps = s386 from (by unfold p_rul; unfold p_bar; rw [hlo, hhi]; (try simp only [e65, e336, e387]); ((repeat' (first | (with_reducible rfl) | split)) <;> (first | ((try simp only [e65, e336, e387]); done) | ((try simp only [e65, e336, e387]); first | exact p_sg_Z _ (by omega) | exact (p_sg_Z _ (by omega)).symm | omega) | (exfalso; omega))))]; exact Z9421) | (exfalso; have := R401.1 15 _ _ rfl; have := R401.1 16 _ _ rfl; have := R401.1 19 _ _ rfl; omega)), (fun w9 => by have u91 : rv M364 o0 19 = 0 := (by omega); have := f374.o u91; have := f375.o u91; have u92 : rv M310 o0 19 = 0 := (by omega); have := f324.o u92; have := f325.o u92; have := f321.o u92; have u93 : rv M38 o0 19 = 0 := (by omega); have := f54.o u93; have := f55.o u93; omega)⟩
                · refine mv_sipush (v := 360) d_TrustDeskModel_readRule_218 (by decide) ?_
                  refine mv_goto (tgt := 247) d_TrustDeskModel_readRule_221 (by decide) ?_
                  obtain ⟨_, b428, -⟩ := I42.1 _ _ t53
                  have : (1 : Int32).toInt = 1 := by decide
                  have : (360 : Int32).toInt = 360 := by decide
                  refine mv_callV (kc' := 0) (ks' := 0) (As := [.int 1, .int 360]) (st9 := [.int 360, .int 1, .ref o0, .int v44, .ref a190]) d_TrustDeskModel_readRule_247 lV_TrustDeskModel_317 b428 rfl (tc_TrustDeskModel_number_x (d := (d + 22)) (x9 := x9) (o0 := o0) (x1 := 1) (x2 := 360) t53 R45 E60.1 (E60.s yS (by decide)) f52 I42.start) rfl (Nat.le_of_ble_eq_true rfl) (Nat.le_of_ble_eq_true rfl) (Nat.le_of_ble_eq_true rfl) (hst := rfl) (fun b422r M423 n424 b422 => ?_)
                  obtain ⟨T425, J426, v429, rfl, R430, f431, f432, f433, f434⟩ := b422
                  have I427 := I42.call J426 (tm_sub (by decide)) (Or.inl rfl)
                  have t435 := J426.up t53
                  have t436 := J426.up t_a190
                  have := f431.2.1
                  have f437 := Im.i f431.w.2
                  have f438 := Im.i f431.w2
                  replace f434 := Im.i f434
                  have z439 := (rv_c I42 J426 (I42.up h_o0) (k := 22) rfl).trans z57
                  have z440 := (rv_c I42 J426 (I42.up h_o0) (k := 24) rfl).trans z58
                  have z441 := (ra_call I42 J426 (I42.up h_o0) (k := 5) rfl rfl rfl 44).trans z59
                  have z442 := (ra_call I42 J426 (I42.up h_o0) (k := 6) rfl rfl rfl 44)
                  have z443 := (ra_call I42 J426 (I42.up h_o0) (k := 7) rfl rfl rfl ((880 + ra M0 o0 6 44).toNat))
                  have z444 := (ra_call I42 J426 (I42.up h_o0) (k := 10) rfl rfl rfl ((880 + ra M0 o0 6 44).toNat))
                  have E445 : rE M0 M423 o0 0 2 := E60.trans f431 (by decide) (yR.2 5 _ _ rfl 44).1 (by decide) (by decide)
                  have K446 : rK M0 M423 o0 ((880 + ra M0 o0 6 44).toNat) := K62.same (sA_c I42 J426 (I42.up h_o0) (by decide +kernel))
                  have K447 : nN M423 o0 := K63.same (sA_c I42 J426 (I42.up h_o0) (by decide +kernel)) (sF_c I42 J426 (I42.up h_o0) (by decide +kernel))
                  rw [show (1 : Int32).toInt = 1 from by decide] at f433
                  rw [show (360 : Int32).toInt = 360 from by decide] at f433
                  obtain ⟨s448, e449⟩ : ∃ s9 : p_S, p_num pb pn 1 360 s64 = s9 := ⟨_, rfl⟩
                  rw [e449] at f433
                  have := f433.w
                  clear z57 z58 z59
                  have q450 := J426.keep t53 (by decide) q66
                  have t451 := J426.up t67
                  have q452 := J426.keep t53 (by decide) q189
                  refine tr_iastR (k := 8) I427 R430 (I427.up h_o0) q452 t436 (by decide) (by decide) (fun lo hi h => by cases h; have := R430.1 15 _ _ rfl; have := R430.1 16 _ _ rfl; have := R430.1 19 _ _ rfl; exact ⟨by show ((-1) : Int) ≤ v429.toInt; omega, by show v429.toInt ≤ (720 : Int); omega⟩) (Or.inl (by decide)) d_TrustDeskModel_readRule_250 (vp_in_iff.mpr (by have := R430.1 15 _ _ rfl; have := R430.1 16 _ _ rfl; have := R430.1 19 _ _ rfl; omega)) (fun M453 I454 K455 R456 E457 A458 V459 => ?_)
                  have z460 := (V459 15)
                  have z461 := (V459 16)
                  have z462 := (V459 17)
                  have z463 := (V459 19)
                  have z464 := (V459 22).trans z439
                  have z465 := (V459 24).trans z440
                  have z466 := (A458 5 (by decide) rfl 44).trans z441
                  have z467 := (A458 6 (by decide) rfl 44).trans z442
                  have z468 := (A458 7 (by decide) rfl ((880 + ra M0 o0 6 44).toNat)).trans z443
                  have z469 := (A458 10 (by decide) rfl ((880 + ra M0 o0 6 44).toNat)).trans z444
                  have E470 : rE M0 M453 o0 0 2 := E445.same (fun k _ _ => V459 k) (fun k h1 h2 => A458 k (by omega) (by rcases (show k = 4 ∨ k = 5 by omega) with rfl | rfl <;> rfl))
                  have h471 : (880 + ra M0 o0 6 44).toNat = v44.toNatClampNeg := by have := mz_nat9 (i := v44) (by have := R430.1 15 _ _ rfl; have := R430.1 16 _ _ rfl; have := R430.1 19 _ _ rfl; omega); have := R430.1 15 _ _ rfl; have := R430.1 16 _ _ rfl; have := R430.1 19 _ _ rfl; omega
                  have z472 : ra M453 o0 8 ((880 + ra M0 o0 6 44).toNat) = v429.toInt := (E457 _).trans (if_pos h471)
                  have K473 : rK M0 M453 o0 ((880 + ra M0 o0 6 44).toNat) := K446.st A458 E457 (by have := mz_nat9 (i := v44) (by have := R430.1 15 _ _ rfl; have := R430.1 16 _ _ rfl; have := R430.1 19 _ _ rfl; omega); have := R430.1 15 _ _ rfl; have := R430.1 16 _ _ rfl; have := R430.1 19 _ _ rfl; omega)
                  have K474 : nN M453 o0 := K447.same (sA_a A458 (by decide +kernel)) (sF_a V459)
                  have Z9475 : pO M453 o0 pb pn pa s448 := f433.same (fun k _ _ => V459 k) (V459 23) (A458 13 (by decide) rfl)
                  clear z439 z440 z441 z442 z443 z444
                  refine mv_aload_n d_TrustDeskModel_readRule_251 rfl rfl ?_
                  refine mv_bipush (v := 59) d_TrustDeskModel_readRule_252 (by decide) ?_
                  obtain ⟨_, b482, -⟩ := I454.1 _ _ t435
                  have : (59 : Int32).toInt = 59 := by decide
                  refine mv_callV (kc' := 0) (ks' := 0) (As := [.int 59]) (st9 := [.int 59, .ref o0]) d_TrustDeskModel_readRule_254 lV_TrustDeskModel_291 b482 rfl (tc_TrustDeskModel_wantSign_x (d := (d + 22)) (x9 := x9) (o0 := o0) (x1 := 59) t435 R456 E470.1 (E470.s yS (by decide)) (by decide) Z9475 I454.start) rfl (Nat.le_of_ble_eq_true rfl) (Nat.le_of_ble_eq_true rfl) (Nat.le_of_ble_eq_true rfl) (hst := rfl) (fun b476r M477 n478 b476 => ?_)
                  obtain ⟨T479, J480, rfl, R483, f484, f485⟩ := b476
                  have I481 := I454.call J480 (tm_sub (by decide)) (Or.inl rfl)
                  have t486 := J480.up t435
                  have := f484.2.1
                  have f487 := Im.i f484.w.2
                  have f488 := Im.i f484.w2
                  have z489 := (rv_c I454 J480 (I454.up h_o0) (k := 22) rfl).trans z464
                  have z490 := (rv_c I454 J480 (I454.up h_o0) (k := 24) rfl).trans z465
                  have z491 := (ra_call I454 J480 (I454.up h_o0) (k := 5) rfl rfl rfl 44).trans z466
                  have z492 := (ra_call I454 J480 (I454.up h_o0) (k := 6) rfl rfl rfl 44).trans z467
                  have z493 := (ra_call I454 J480 (I454.up h_o0) (k := 7) rfl rfl rfl ((880 + ra M0 o0 6 44).toNat)).trans z468
                  have z494 := (ra_call I454 J480 (I454.up h_o0) (k := 10) rfl rfl rfl ((880 + ra M0 o0 6 44).toNat)).trans z469
                  have z495 := (ra_call I454 J480 (I454.up h_o0) (k := 8) rfl rfl rfl ((880 + ra M0 o0 6 44).toNat)).trans z472
                  have E496 : rE M0 M477 o0 0 3 := E470.trans f484 (by decide) (yR.2 5 _ _ rfl 44).1 (by decide) (by decide)
                  have K497 : rK M0 M477 o0 ((880 + ra M0 o0 6 44).toNat) := K473.same (sA_c I454 J480 (I454.up h_o0) (by decide +kernel))
                  have K498 : nN M477 o0 := K474.same (sA_c I454 J480 (I454.up h_o0) (by decide +kernel)) (sF_c I454 J480 (I454.up h_o0) (by decide +kernel))
                  rw [show (59 : Int32).toInt = 59 from by decide] at f485
                  obtain ⟨s499, e500⟩ : ∃ s9 : p_S, p_sg pb pn 59 s448 = s9 := ⟨_, rfl⟩
                  rw [e500] at f485
                  have := f485.w
                  clear z464 z465 z466 z467 z468 z469 z472
                  have q501 := J480.keep t435 (by decide) (K455 _ 13 6 _ q450)
                  have t502 := J480.up t451
                  have q503 := J480.keep t435 (by decide) (K455 _ 13 8 _ q452)
                  have t504 := J480.up t436
                  refine mv_aload_n d_TrustDeskModel_readRule_257 rfl rfl ?_
                  obtain ⟨a506, q505, t_a506⟩ := tm_atR I481 t486 (k := 12) rfl
                  refine tr_getK q505 d_TrustDeskModel_readRule_258 f_TrustDeskModel_41_13 ?_
                  refine mv_iload_n d_TrustDeskModel_readRule_261 rfl rfl ?_
                  refine mv_aload_n d_TrustDeskModel_readRule_262 rfl rfl ?_
                  obtain ⟨a508, q507, t_a508⟩ := tm_atR I481 t486 (k := 5) rfl
                  refine tr_getK q507 d_TrustDeskModel_readRule_263 f_TrustDeskModel_20_13 ?_
                  refine mv_bipush (v := 44) d_TrustDeskModel_readRule_266 (by decide) ?_
                  refine tr_ialdR (o := o0) (k := 5) I481 q507 t_a508 (by decide) d_TrustDeskModel_readRule_268 (by unfold vp_in; decide) (fun v509 e510 => ?_)
                  have := R483.a (k := 5) rfl (44 : Int32).toNatClampNeg
                  have : v509.toInt = ra M477 o0 5 44 := e510
                  have : v509.toInt = _ := Eq.trans e510 z491
                  refine tr_iastR (k := 12) I481 R483 (I481.up h_o0) q505 t_a506 (by decide) (by decide) (fun lo hi h => by cases h; have := R483.1 15 _ _ rfl; have := R483.1 16 _ _ rfl; have := R483.1 19 _ _ rfl; exact ⟨by show (0 : Int) ≤ v509.toInt; omega, by show v509.toInt ≤ (400 : Int); omega⟩) (Or.inl (by decide)) d_TrustDeskModel_readRule_269 (vp_in_iff.mpr (by have := R483.1 15 _ _ rfl; have := R483.1 16 _ _ rfl; have := R483.1 19 _ _ rfl; omega)) (fun M511 I512 K513 R514 E515 A516 V517 => ?_)
                  have z518 := (V517 15)
                  have z519 := (V517 16)
                  have z520 := (V517 17)
                  have z521 := (V517 19)
                  have z522 := (V517 22).trans z489
                  have z523 := (V517 24).trans z490
                  have z524 := (A516 5 (by decide) rfl 44).trans z491
                  have z525 := (A516 6 (by decide) rfl 44).trans z492
                  have z526 := (A516 7 (by decide) rfl ((880 + ra M0 o0 6 44).toNat)).trans z493
                  have z527 := (A516 10 (by decide) rfl ((880 + ra M0 o0 6 44).toNat)).trans z494
                  have z528 := (A516 8 (by decide) rfl ((880 + ra M0 o0 6 44).toNat)).trans z495
                  have E529 : rE M0 M511 o0 0 3 := E496.same (fun k _ _ => V517 k) (fun k h1 h2 => A516 k (by omega) (by rcases (show k = 4 ∨ k = 5 by omega) with rfl | rfl <;> rfl))
                  have h530 : (880 + ra M0 o0 6 44).toNat = v44.toNatClampNeg := by have := mz_nat9 (i := v44) (by have := R483.1 15 _ _ rfl; have := R483.1 16 _ _ rfl; have := R483.1 19 _ _ rfl; omega); have := R483.1 15 _ _ rfl; have := R483.1 16 _ _ rfl; have := R483.1 19 _ _ rfl; omega
                  have z531 : ra M511 o0 12 ((880 + ra M0 o0 6 44).toNat) = v509.toInt := (E515 _).trans (if_pos h530)
                  have K532 : rK M0 M511 o0 ((880 + ra M0 o0 6 44).toNat) := K497.st A516 E515 (by have := mz_nat9 (i := v44) (by have := R483.1 15 _ _ rfl; have := R483.1 16 _ _ rfl; have := R483.1 19 _ _ rfl; omega); have := R483.1 15 _ _ rfl; have := R483.1 16 _ _ rfl; have := R483.1 19 _ _ rfl; omega)
                  have K533 : nN M511 o0 := K498.same (sA_a A516 (by decide +kernel)) (sF_a V517)
                  have Z9534 : pO M511 o0 pb pn pa s499 := f485.same (fun k _ _ => V517 k) (V517 23) (A516 13 (by decide) rfl)
                  clear z489 z490 z491 z492 z493 z494 z495
                  exact mv_vret d_TrustDeskModel_readRule_270 rfl ⟨_, I512, rfl, R514, (rW.of E529.1 (E529.s yS (by decide)) (fun w9 => by have u91 : rv M477 o0 19 = 0 := (by omega); have := f487.o u91; have := f488.o u91; have u92 : rv M423 o0 19 = 0 := (by omega); have := f437.o u92; have := f438.o u92; have := f434.o u92; have u93 : rv M38 o0 19 = 0 := (by omega); have := f54.o u93; have := f55.o u93; exact rG.step yG yR E529 w9 K532 (by have := yR.2 6 _ _ rfl 44; omega) (by have := R514.1 15 _ _ rfl; have := R514.1 16 _ _ rfl; have := R514.1 19 _ _ rfl; omega) (by have := R514.1 15 _ _ rfl; have := R514.1 16 _ _ rfl; have := R514.1 19 _ _ rfl; omega) (fun h9 => by exfalso; have := R514.1 15 _ _ rfl; have := R514.1 16 _ _ rfl; have := R514.1 19 _ _ rfl; omega) (fun h9 => (by have := R514.1 15 _ _ rfl; have := R514.1 16 _ _ rfl; have := R514.1 19 _ _ rfl; omega)) (by have := R514.1 15 _ _ rfl; have := R514.1 16 _ _ rfl; have := R514.1 19 _ _ rfl; omega) K533)), (rO.of E529 K532 (by have := yR.2 6 _ _ rfl 44; omega)), ⟨E529.2.1, fun w9 => by skip; have := E529.w2 w9; omega⟩, (fun w9 => by have u91 : rv M477 o0 19 = 0 := (by omega); have := f487.o u91; have := f488.o u91; have u92 : rv M423 o0 19 = 0 := (by omega); have := f437.o u92; have := f438.o u92; have := f434.o u92; have u93 : rv M38 o0 19 = 0 := (by omega); have := f54.o u93; have := f55.o u93; omega), (by first | (have hlo : p_lo (p_wi pb pn ps.2.2) = 1 := (by unfold p_lo; split <;> omega); have hhi : p_hi (p_wi pb pn ps.2.2) = 360 := (by unfold p_hi; (repeat' split) <;> omega); rw [show p_rul pb pn pa pc9 ps = s499 from (by unfold p_rul; unfold p_bar; rw [hlo, hhi]; (try simp only [e65, e449, e500]); ((repeat' (first | (with_reducible rfl) | split)) <;> (first | ((try simp only [e65, e449, e500]); done) | ((try simp only [e65, e449, e500]); first | exact p_sg_Z _ (by omega) | exact (p_sg_Z _ (by omega)).symm | omega) | (exfalso; omega))))]; exact Z9534) | (exfalso; have := R514.1 15 _ _ rfl; have := R514.1 16 _ _ rfl; have := R514.1 19 _ _ rfl; omega)), (fun w9 => by have u91 : rv M477 o0 19 = 0 := (by omega); have := f487.o u91; have := f488.o u91; have u92 : rv M423 o0 19 = 0 := (by omega); have := f437.o u92; have := f438.o u92; have := f434.o u92; have u93 : rv M38 o0 19 = 0 := (by omega); have := f54.o u93; have := f55.o u93; omega)⟩
              · refine mv_bipush (v := 50) d_TrustDeskModel_readRule_198 (by decide) ?_
                refine mv_goto (tgt := 247) d_TrustDeskModel_readRule_200 (by decide) ?_
                obtain ⟨_, b541, -⟩ := I42.1 _ _ t53
                have : (1 : Int32).toInt = 1 := by decide
                have : (50 : Int32).toInt = 50 := by decide
                refine mv_callV (kc' := 0) (ks' := 0) (As := [.int 1, .int 50]) (st9 := [.int 50, .int 1, .ref o0, .int v44, .ref a190]) d_TrustDeskModel_readRule_247 lV_TrustDeskModel_317 b541 rfl (tc_TrustDeskModel_number_x (d := (d + 22)) (x9 := x9) (o0 := o0) (x1 := 1) (x2 := 50) t53 R45 E60.1 (E60.s yS (by decide)) f52 I42.start) rfl (Nat.le_of_ble_eq_true rfl) (Nat.le_of_ble_eq_true rfl) (Nat.le_of_ble_eq_true rfl) (hst := rfl) (fun b535r M536 n537 b535 => ?_)
                obtain ⟨T538, J539, v542, rfl, R543, f544, f545, f546, f547⟩ := b535
                have I540 := I42.call J539 (tm_sub (by decide)) (Or.inl rfl)
                have t548 := J539.up t53
                have t549 := J539.up t_a190
                have := f544.2.1
                have f550 := Im.i f544.w.2
                have f551 := Im.i f544.w2
                replace f547 := Im.i f547
                have z552 := (rv_c I42 J539 (I42.up h_o0) (k := 22) rfl).trans z57
                have z553 := (rv_c I42 J539 (I42.up h_o0) (k := 24) rfl).trans z58
                have z554 := (ra_call I42 J539 (I42.up h_o0) (k := 5) rfl rfl rfl 44).trans z59
                have z555 := (ra_call I42 J539 (I42.up h_o0) (k := 6) rfl rfl rfl 44)
                have z556 := (ra_call I42 J539 (I42.up h_o0) (k := 7) rfl rfl rfl ((880 + ra M0 o0 6 44).toNat))
                have z557 := (ra_call I42 J539 (I42.up h_o0) (k := 10) rfl rfl rfl ((880 + ra M0 o0 6 44).toNat))
                have E558 : rE M0 M536 o0 0 2 := E60.trans f544 (by decide) (yR.2 5 _ _ rfl 44).1 (by decide) (by decide)
                have K559 : rK M0 M536 o0 ((880 + ra M0 o0 6 44).toNat) := K62.same (sA_c I42 J539 (I42.up h_o0) (by decide +kernel))
                have K560 : nN M536 o0 := K63.same (sA_c I42 J539 (I42.up h_o0) (by decide +kernel)) (sF_c I42 J539 (I42.up h_o0) (by decide +kernel))
                rw [show (1 : Int32).toInt = 1 from by decide] at f546
                rw [show (50 : Int32).toInt = 50 from by decide] at f546
                obtain ⟨s561, e562⟩ : ∃ s9 : p_S, p_num pb pn 1 50 s64 = s9 := ⟨_, rfl⟩
                rw [e562] at f546
                have := f546.w
                clear z57 z58 z59
                have q563 := J539.keep t53 (by decide) q66
                have t564 := J539.up t67
                have q565 := J539.keep t53 (by decide) q189
                refine tr_iastR (k := 8) I540 R543 (I540.up h_o0) q565 t549 (by decide) (by decide) (fun lo hi h => by cases h; have := R543.1 15 _ _ rfl; have := R543.1 16 _ _ rfl; have := R543.1 19 _ _ rfl; exact ⟨by show ((-1) : Int) ≤ v542.toInt; omega, by show v542.toInt ≤ (720 : Int); omega⟩) (Or.inl (by decide)) d_TrustDeskModel_readRule_250 (vp_in_iff.mpr (by have := R543.1 15 _ _ rfl; have := R543.1 16 _ _ rfl; have := R543.1 19 _ _ rfl; omega)) (fun M566 I567 K568 R569 E570 A571 V572 => ?_)
                have z573 := (V572 15)
                have z574 := (V572 16)
                have z575 := (V572 17)
                have z576 := (V572 19)
                have z577 := (V572 22).trans z552
                have z578 := (V572 24).trans z553
                have z579 := (A571 5 (by decide) rfl 44).trans z554
                have z580 := (A571 6 (by decide) rfl 44).trans z555
                have z581 := (A571 7 (by decide) rfl ((880 + ra M0 o0 6 44).toNat)).trans z556
                have z582 := (A571 10 (by decide) rfl ((880 + ra M0 o0 6 44).toNat)).trans z557
                have E583 : rE M0 M566 o0 0 2 := E558.same (fun k _ _ => V572 k) (fun k h1 h2 => A571 k (by omega) (by rcases (show k = 4 ∨ k = 5 by omega) with rfl | rfl <;> rfl))
                have h584 : (880 + ra M0 o0 6 44).toNat = v44.toNatClampNeg := by have := mz_nat9 (i := v44) (by have := R543.1 15 _ _ rfl; have := R543.1 16 _ _ rfl; have := R543.1 19 _ _ rfl; omega); have := R543.1 15 _ _ rfl; have := R543.1 16 _ _ rfl; have := R543.1 19 _ _ rfl; omega
                have z585 : ra M566 o0 8 ((880 + ra M0 o0 6 44).toNat) = v542.toInt := (E570 _).trans (if_pos h584)
                have K586 : rK M0 M566 o0 ((880 + ra M0 o0 6 44).toNat) := K559.st A571 E570 (by have := mz_nat9 (i := v44) (by have := R543.1 15 _ _ rfl; have := R543.1 16 _ _ rfl; have := R543.1 19 _ _ rfl; omega); have := R543.1 15 _ _ rfl; have := R543.1 16 _ _ rfl; have := R543.1 19 _ _ rfl; omega)
                have K587 : nN M566 o0 := K560.same (sA_a A571 (by decide +kernel)) (sF_a V572)
                have Z9588 : pO M566 o0 pb pn pa s561 := f546.same (fun k _ _ => V572 k) (V572 23) (A571 13 (by decide) rfl)
                clear z552 z553 z554 z555 z556 z557
                refine mv_aload_n d_TrustDeskModel_readRule_251 rfl rfl ?_
                refine mv_bipush (v := 59) d_TrustDeskModel_readRule_252 (by decide) ?_
                obtain ⟨_, b595, -⟩ := I567.1 _ _ t548
                have : (59 : Int32).toInt = 59 := by decide
                refine mv_callV (kc' := 0) (ks' := 0) (As := [.int 59]) (st9 := [.int 59, .ref o0]) d_TrustDeskModel_readRule_254 lV_TrustDeskModel_291 b595 rfl (tc_TrustDeskModel_wantSign_x (d := (d + 22)) (x9 := x9) (o0 := o0) (x1 := 59) t548 R569 E583.1 (E583.s yS (by decide)) (by decide) Z9588 I567.start) rfl (Nat.le_of_ble_eq_true rfl) (Nat.le_of_ble_eq_true rfl) (Nat.le_of_ble_eq_true rfl) (hst := rfl) (fun b589r M590 n591 b589 => ?_)
                obtain ⟨T592, J593, rfl, R596, f597, f598⟩ := b589
                have I594 := I567.call J593 (tm_sub (by decide)) (Or.inl rfl)
                have t599 := J593.up t548
                have := f597.2.1
                have f600 := Im.i f597.w.2
                have f601 := Im.i f597.w2
                have z602 := (rv_c I567 J593 (I567.up h_o0) (k := 22) rfl).trans z577
                have z603 := (rv_c I567 J593 (I567.up h_o0) (k := 24) rfl).trans z578
                have z604 := (ra_call I567 J593 (I567.up h_o0) (k := 5) rfl rfl rfl 44).trans z579
                have z605 := (ra_call I567 J593 (I567.up h_o0) (k := 6) rfl rfl rfl 44).trans z580
                have z606 := (ra_call I567 J593 (I567.up h_o0) (k := 7) rfl rfl rfl ((880 + ra M0 o0 6 44).toNat)).trans z581
                have z607 := (ra_call I567 J593 (I567.up h_o0) (k := 10) rfl rfl rfl ((880 + ra M0 o0 6 44).toNat)).trans z582
                have z608 := (ra_call I567 J593 (I567.up h_o0) (k := 8) rfl rfl rfl ((880 + ra M0 o0 6 44).toNat)).trans z585
                have E609 : rE M0 M590 o0 0 3 := E583.trans f597 (by decide) (yR.2 5 _ _ rfl 44).1 (by decide) (by decide)
                have K610 : rK M0 M590 o0 ((880 + ra M0 o0 6 44).toNat) := K586.same (sA_c I567 J593 (I567.up h_o0) (by decide +kernel))
                have K611 : nN M590 o0 := K587.same (sA_c I567 J593 (I567.up h_o0) (by decide +kernel)) (sF_c I567 J593 (I567.up h_o0) (by decide +kernel))
                rw [show (59 : Int32).toInt = 59 from by decide] at f598
                obtain ⟨s612, e613⟩ : ∃ s9 : p_S, p_sg pb pn 59 s561 = s9 := ⟨_, rfl⟩
                rw [e613] at f598
                have := f598.w
                clear z577 z578 z579 z580 z581 z582 z585
                have q614 := J593.keep t548 (by decide) (K568 _ 13 6 _ q563)
                have t615 := J593.up t564
                have q616 := J593.keep t548 (by decide) (K568 _ 13 8 _ q565)
                have t617 := J593.up t549
                refine mv_aload_n d_TrustDeskModel_readRule_257 rfl rfl ?_
                obtain ⟨a619, q618, t_a619⟩ := tm_atR I594 t599 (k := 12) rfl
                refine tr_getK q618 d_TrustDeskModel_readRule_258 f_TrustDeskModel_41_13 ?_
                refine mv_iload_n d_TrustDeskModel_readRule_261 rfl rfl ?_
                refine mv_aload_n d_TrustDeskModel_readRule_262 rfl rfl ?_
                obtain ⟨a621, q620, t_a621⟩ := tm_atR I594 t599 (k := 5) rfl
                refine tr_getK q620 d_TrustDeskModel_readRule_263 f_TrustDeskModel_20_13 ?_
                refine mv_bipush (v := 44) d_TrustDeskModel_readRule_266 (by decide) ?_
                refine tr_ialdR (o := o0) (k := 5) I594 q620 t_a621 (by decide) d_TrustDeskModel_readRule_268 (by unfold vp_in; decide) (fun v622 e623 => ?_)
                have := R596.a (k := 5) rfl (44 : Int32).toNatClampNeg
                have : v622.toInt = ra M590 o0 5 44 := e623
                have : v622.toInt = _ := Eq.trans e623 z604
                refine tr_iastR (k := 12) I594 R596 (I594.up h_o0) q618 t_a619 (by decide) (by decide) (fun lo hi h => by cases h; have := R596.1 15 _ _ rfl; have := R596.1 16 _ _ rfl; have := R596.1 19 _ _ rfl; exact ⟨by show (0 : Int) ≤ v622.toInt; omega, by show v622.toInt ≤ (400 : Int); omega⟩) (Or.inl (by decide)) d_TrustDeskModel_readRule_269 (vp_in_iff.mpr (by have := R596.1 15 _ _ rfl; have := R596.1 16 _ _ rfl; have := R596.1 19 _ _ rfl; omega)) (fun M624 I625 K626 R627 E628 A629 V630 => ?_)
                have z631 := (V630 15)
                have z632 := (V630 16)
                have z633 := (V630 17)
                have z634 := (V630 19)
                have z635 := (V630 22).trans z602
                have z636 := (V630 24).trans z603
                have z637 := (A629 5 (by decide) rfl 44).trans z604
                have z638 := (A629 6 (by decide) rfl 44).trans z605
                have z639 := (A629 7 (by decide) rfl ((880 + ra M0 o0 6 44).toNat)).trans z606
                have z640 := (A629 10 (by decide) rfl ((880 + ra M0 o0 6 44).toNat)).trans z607
                have z641 := (A629 8 (by decide) rfl ((880 + ra M0 o0 6 44).toNat)).trans z608
                have E642 : rE M0 M624 o0 0 3 := E609.same (fun k _ _ => V630 k) (fun k h1 h2 => A629 k (by omega) (by rcases (show k = 4 ∨ k = 5 by omega) with rfl | rfl <;> rfl))
                have h643 : (880 + ra M0 o0 6 44).toNat = v44.toNatClampNeg := by have := mz_nat9 (i := v44) (by have := R596.1 15 _ _ rfl; have := R596.1 16 _ _ rfl; have := R596.1 19 _ _ rfl; omega); have := R596.1 15 _ _ rfl; have := R596.1 16 _ _ rfl; have := R596.1 19 _ _ rfl; omega
                have z644 : ra M624 o0 12 ((880 + ra M0 o0 6 44).toNat) = v622.toInt := (E628 _).trans (if_pos h643)
                have K645 : rK M0 M624 o0 ((880 + ra M0 o0 6 44).toNat) := K610.st A629 E628 (by have := mz_nat9 (i := v44) (by have := R596.1 15 _ _ rfl; have := R596.1 16 _ _ rfl; have := R596.1 19 _ _ rfl; omega); have := R596.1 15 _ _ rfl; have := R596.1 16 _ _ rfl; have := R596.1 19 _ _ rfl; omega)
                have K646 : nN M624 o0 := K611.same (sA_a A629 (by decide +kernel)) (sF_a V630)
                have Z9647 : pO M624 o0 pb pn pa s612 := f598.same (fun k _ _ => V630 k) (V630 23) (A629 13 (by decide) rfl)
                clear z602 z603 z604 z605 z606 z607 z608
                exact mv_vret d_TrustDeskModel_readRule_270 rfl ⟨_, I625, rfl, R627, (rW.of E642.1 (E642.s yS (by decide)) (fun w9 => by have u91 : rv M590 o0 19 = 0 := (by omega); have := f600.o u91; have := f601.o u91; have u92 : rv M536 o0 19 = 0 := (by omega); have := f550.o u92; have := f551.o u92; have := f547.o u92; have u93 : rv M38 o0 19 = 0 := (by omega); have := f54.o u93; have := f55.o u93; exact rG.step yG yR E642 w9 K645 (by have := yR.2 6 _ _ rfl 44; omega) (by have := R627.1 15 _ _ rfl; have := R627.1 16 _ _ rfl; have := R627.1 19 _ _ rfl; omega) (by have := R627.1 15 _ _ rfl; have := R627.1 16 _ _ rfl; have := R627.1 19 _ _ rfl; omega) (fun h9 => by exfalso; have := R627.1 15 _ _ rfl; have := R627.1 16 _ _ rfl; have := R627.1 19 _ _ rfl; omega) (fun h9 => (by have := R627.1 15 _ _ rfl; have := R627.1 16 _ _ rfl; have := R627.1 19 _ _ rfl; omega)) (by have := R627.1 15 _ _ rfl; have := R627.1 16 _ _ rfl; have := R627.1 19 _ _ rfl; omega) K646)), (rO.of E642 K645 (by have := yR.2 6 _ _ rfl 44; omega)), ⟨E642.2.1, fun w9 => by skip; have := E642.w2 w9; omega⟩, (fun w9 => by have u91 : rv M590 o0 19 = 0 := (by omega); have := f600.o u91; have := f601.o u91; have u92 : rv M536 o0 19 = 0 := (by omega); have := f550.o u92; have := f551.o u92; have := f547.o u92; have u93 : rv M38 o0 19 = 0 := (by omega); have := f54.o u93; have := f55.o u93; omega), (by first | (have hlo : p_lo (p_wi pb pn ps.2.2) = 1 := (by unfold p_lo; split <;> omega); have hhi : p_hi (p_wi pb pn ps.2.2) = 50 := (by unfold p_hi; (repeat' split) <;> omega); rw [show p_rul pb pn pa pc9 ps = s612 from (by unfold p_rul; unfold p_bar; rw [hlo, hhi]; (try simp only [e65, e562, e613]); ((repeat' (first | (with_reducible rfl) | split)) <;> (first | ((try simp only [e65, e562, e613]); done) | ((try simp only [e65, e562, e613]); first | exact p_sg_Z _ (by omega) | exact (p_sg_Z _ (by omega)).symm | omega) | (exfalso; omega))))]; exact Z9647) | (exfalso; have := R627.1 15 _ _ rfl; have := R627.1 16 _ _ rfl; have := R627.1 19 _ _ rfl; omega)), (fun w9 => by have u91 : rv M590 o0 19 = 0 := (by omega); have := f600.o u91; have := f601.o u91; have u92 : rv M536 o0 19 = 0 := (by omega); have := f550.o u92; have := f551.o u92; have := f547.o u92; have u93 : rv M38 o0 19 = 0 := (by omega); have := f54.o u93; have := f55.o u93; omega)⟩
            · refine mv_iconst (v := 0) d_TrustDeskModel_readRule_181 (by decide) ?_
              refine mv_goto (tgt := 186) d_TrustDeskModel_readRule_182 (by decide) ?_
              refine mv_istore_n (lv' := [(3, .int 0), (2, .int v44), (1, .int v10), (0, .ref o0)]) d_TrustDeskModel_readRule_186 rfl (by decide) rfl ?_
              refine mv_aload_n d_TrustDeskModel_readRule_187 rfl rfl ?_
              obtain ⟨a649, q648, t_a649⟩ := tm_atR I42 t53 (k := 8) rfl
              refine tr_getK q648 d_TrustDeskModel_readRule_188 f_TrustDeskModel_29_13 ?_
              refine mv_iload_n d_TrustDeskModel_readRule_191 rfl rfl ?_
              refine mv_aload_n d_TrustDeskModel_readRule_192 rfl rfl ?_
              refine mv_iload_n d_TrustDeskModel_readRule_193 rfl rfl ?_
              refine mv_iload_n d_TrustDeskModel_readRule_194 rfl rfl ?_
              have := mz_hi v10
              refine mv_if_neZ (tgt := 203) (a := v10.toInt) d_TrustDeskModel_readRule_195 (by decide) rfl (fun b650 => ?_) (fun b650 => absurd b650 (by omega))
              refine mv_iload_n d_TrustDeskModel_readRule_203 rfl rfl ?_
              refine mv_iconst (v := 1) d_TrustDeskModel_readRule_204 (by decide) ?_
              have := mz_hi v10
              refine mv_icmp_neZ (tgt := 213) (a := v10.toInt) (b := 1) d_TrustDeskModel_readRule_205 (by decide) rfl (by decide) (fun b651 => ?_) (fun b651 => absurd b651 (by omega))
              refine mv_iload_n d_TrustDeskModel_readRule_213 rfl rfl ?_
              refine mv_iconst (v := 2) d_TrustDeskModel_readRule_214 (by decide) ?_
              have := mz_hi v10
              refine mv_icmp_neZ (tgt := 224) (a := v10.toInt) (b := 2) d_TrustDeskModel_readRule_215 (by decide) rfl (by decide) (fun b652 => ?_) (fun b652 => absurd b652 (by omega))
              refine mv_iload_n d_TrustDeskModel_readRule_224 rfl rfl ?_
              refine mv_iconst (v := 3) d_TrustDeskModel_readRule_225 (by decide) ?_
              have := mz_hi v10
              refine mv_icmp_neZ (tgt := 235) (a := v10.toInt) (b := 3) d_TrustDeskModel_readRule_226 (by decide) rfl (by decide) (fun b653 => ?_) (fun b653 => absurd b653 (by omega))
              refine mv_iload_n d_TrustDeskModel_readRule_235 rfl rfl ?_
              refine mv_iconst (v := 4) d_TrustDeskModel_readRule_236 (by decide) ?_
              have := mz_hi v10
              refine mv_icmp_neZ (tgt := 245) (a := v10.toInt) (b := 4) d_TrustDeskModel_readRule_237 (by decide) rfl (by decide) (fun b654 => absurd b654 (by omega)) (fun b654 => ?_)
              refine mv_bipush (v := 20) d_TrustDeskModel_readRule_240 (by decide) ?_
              refine mv_goto (tgt := 247) d_TrustDeskModel_readRule_242 (by decide) ?_
              obtain ⟨_, b661, -⟩ := I42.1 _ _ t53
              have : (0 : Int32).toInt = 0 := by decide
              have : (20 : Int32).toInt = 20 := by decide
              refine mv_callV (kc' := 0) (ks' := 0) (As := [.int 0, .int 20]) (st9 := [.int 20, .int 0, .ref o0, .int v44, .ref a649]) d_TrustDeskModel_readRule_247 lV_TrustDeskModel_317 b661 rfl (tc_TrustDeskModel_number_x (d := (d + 22)) (x9 := x9) (o0 := o0) (x1 := 0) (x2 := 20) t53 R45 E60.1 (E60.s yS (by decide)) f52 I42.start) rfl (Nat.le_of_ble_eq_true rfl) (Nat.le_of_ble_eq_true rfl) (Nat.le_of_ble_eq_true rfl) (hst := rfl) (fun b655r M656 n657 b655 => ?_)
              obtain ⟨T658, J659, v662, rfl, R663, f664, f665, f666, f667⟩ := b655
              have I660 := I42.call J659 (tm_sub (by decide)) (Or.inl rfl)
              have t668 := J659.up t53
              have t669 := J659.up t_a649
              have := f664.2.1
              have f670 := Im.i f664.w.2
              have f671 := Im.i f664.w2
              replace f667 := Im.i f667
              have z672 := (rv_c I42 J659 (I42.up h_o0) (k := 22) rfl).trans z57
              have z673 := (rv_c I42 J659 (I42.up h_o0) (k := 24) rfl).trans z58
              have z674 := (ra_call I42 J659 (I42.up h_o0) (k := 5) rfl rfl rfl 44).trans z59
              have z675 := (ra_call I42 J659 (I42.up h_o0) (k := 6) rfl rfl rfl 44)
              have z676 := (ra_call I42 J659 (I42.up h_o0) (k := 7) rfl rfl rfl ((880 + ra M0 o0 6 44).toNat))
              have z677 := (ra_call I42 J659 (I42.up h_o0) (k := 10) rfl rfl rfl ((880 + ra M0 o0 6 44).toNat))
              have E678 : rE M0 M656 o0 0 2 := E60.trans f664 (by decide) (yR.2 5 _ _ rfl 44).1 (by decide) (by decide)
              have K679 : rK M0 M656 o0 ((880 + ra M0 o0 6 44).toNat) := K62.same (sA_c I42 J659 (I42.up h_o0) (by decide +kernel))
              have K680 : nN M656 o0 := K63.same (sA_c I42 J659 (I42.up h_o0) (by decide +kernel)) (sF_c I42 J659 (I42.up h_o0) (by decide +kernel))
              rw [show (0 : Int32).toInt = 0 from by decide] at f666
              rw [show (20 : Int32).toInt = 20 from by decide] at f666
              obtain ⟨s681, e682⟩ : ∃ s9 : p_S, p_num pb pn 0 20 s64 = s9 := ⟨_, rfl⟩
              rw [e682] at f666
              have := f666.w
              clear z57 z58 z59
              have q683 := J659.keep t53 (by decide) q66
              have t684 := J659.up t67
              have q685 := J659.keep t53 (by decide) q648
              refine tr_iastR (k := 8) I660 R663 (I660.up h_o0) q685 t669 (by decide) (by decide) (fun lo hi h => by cases h; have := R663.1 15 _ _ rfl; have := R663.1 16 _ _ rfl; have := R663.1 19 _ _ rfl; exact ⟨by show ((-1) : Int) ≤ v662.toInt; omega, by show v662.toInt ≤ (720 : Int); omega⟩) (Or.inl (by decide)) d_TrustDeskModel_readRule_250 (vp_in_iff.mpr (by have := R663.1 15 _ _ rfl; have := R663.1 16 _ _ rfl; have := R663.1 19 _ _ rfl; omega)) (fun M686 I687 K688 R689 E690 A691 V692 => ?_)
              have z693 := (V692 15)
              have z694 := (V692 16)
              have z695 := (V692 17)
              have z696 := (V692 19)
              have z697 := (V692 22).trans z672
              have z698 := (V692 24).trans z673
              have z699 := (A691 5 (by decide) rfl 44).trans z674
              have z700 := (A691 6 (by decide) rfl 44).trans z675
              have z701 := (A691 7 (by decide) rfl ((880 + ra M0 o0 6 44).toNat)).trans z676
              have z702 := (A691 10 (by decide) rfl ((880 + ra M0 o0 6 44).toNat)).trans z677
              have E703 : rE M0 M686 o0 0 2 := E678.same (fun k _ _ => V692 k) (fun k h1 h2 => A691 k (by omega) (by rcases (show k = 4 ∨ k = 5 by omega) with rfl | rfl <;> rfl))
              have h704 : (880 + ra M0 o0 6 44).toNat = v44.toNatClampNeg := by have := mz_nat9 (i := v44) (by have := R663.1 15 _ _ rfl; have := R663.1 16 _ _ rfl; have := R663.1 19 _ _ rfl; omega); have := R663.1 15 _ _ rfl; have := R663.1 16 _ _ rfl; have := R663.1 19 _ _ rfl; omega
              have z705 : ra M686 o0 8 ((880 + ra M0 o0 6 44).toNat) = v662.toInt := (E690 _).trans (if_pos h704)
              have K706 : rK M0 M686 o0 ((880 + ra M0 o0 6 44).toNat) := K679.st A691 E690 (by have := mz_nat9 (i := v44) (by have := R663.1 15 _ _ rfl; have := R663.1 16 _ _ rfl; have := R663.1 19 _ _ rfl; omega); have := R663.1 15 _ _ rfl; have := R663.1 16 _ _ rfl; have := R663.1 19 _ _ rfl; omega)
              have K707 : nN M686 o0 := K680.same (sA_a A691 (by decide +kernel)) (sF_a V692)
              have Z9708 : pO M686 o0 pb pn pa s681 := f666.same (fun k _ _ => V692 k) (V692 23) (A691 13 (by decide) rfl)
              clear z672 z673 z674 z675 z676 z677
              refine mv_aload_n d_TrustDeskModel_readRule_251 rfl rfl ?_
              refine mv_bipush (v := 59) d_TrustDeskModel_readRule_252 (by decide) ?_
              obtain ⟨_, b715, -⟩ := I687.1 _ _ t668
              have : (59 : Int32).toInt = 59 := by decide
              refine mv_callV (kc' := 0) (ks' := 0) (As := [.int 59]) (st9 := [.int 59, .ref o0]) d_TrustDeskModel_readRule_254 lV_TrustDeskModel_291 b715 rfl (tc_TrustDeskModel_wantSign_x (d := (d + 22)) (x9 := x9) (o0 := o0) (x1 := 59) t668 R689 E703.1 (E703.s yS (by decide)) (by decide) Z9708 I687.start) rfl (Nat.le_of_ble_eq_true rfl) (Nat.le_of_ble_eq_true rfl) (Nat.le_of_ble_eq_true rfl) (hst := rfl) (fun b709r M710 n711 b709 => ?_)
              obtain ⟨T712, J713, rfl, R716, f717, f718⟩ := b709
              have I714 := I687.call J713 (tm_sub (by decide)) (Or.inl rfl)
              have t719 := J713.up t668
              have := f717.2.1
              have f720 := Im.i f717.w.2
              have f721 := Im.i f717.w2
              have z722 := (rv_c I687 J713 (I687.up h_o0) (k := 22) rfl).trans z697
              have z723 := (rv_c I687 J713 (I687.up h_o0) (k := 24) rfl).trans z698
              have z724 := (ra_call I687 J713 (I687.up h_o0) (k := 5) rfl rfl rfl 44).trans z699
              have z725 := (ra_call I687 J713 (I687.up h_o0) (k := 6) rfl rfl rfl 44).trans z700
              have z726 := (ra_call I687 J713 (I687.up h_o0) (k := 7) rfl rfl rfl ((880 + ra M0 o0 6 44).toNat)).trans z701
              have z727 := (ra_call I687 J713 (I687.up h_o0) (k := 10) rfl rfl rfl ((880 + ra M0 o0 6 44).toNat)).trans z702
              have z728 := (ra_call I687 J713 (I687.up h_o0) (k := 8) rfl rfl rfl ((880 + ra M0 o0 6 44).toNat)).trans z705
              have E729 : rE M0 M710 o0 0 3 := E703.trans f717 (by decide) (yR.2 5 _ _ rfl 44).1 (by decide) (by decide)
              have K730 : rK M0 M710 o0 ((880 + ra M0 o0 6 44).toNat) := K706.same (sA_c I687 J713 (I687.up h_o0) (by decide +kernel))
              have K731 : nN M710 o0 := K707.same (sA_c I687 J713 (I687.up h_o0) (by decide +kernel)) (sF_c I687 J713 (I687.up h_o0) (by decide +kernel))
              rw [show (59 : Int32).toInt = 59 from by decide] at f718
              obtain ⟨s732, e733⟩ : ∃ s9 : p_S, p_sg pb pn 59 s681 = s9 := ⟨_, rfl⟩
              rw [e733] at f718
              have := f718.w
              clear z697 z698 z699 z700 z701 z702 z705
              have q734 := J713.keep t668 (by decide) (K688 _ 13 6 _ q683)
              have t735 := J713.up t684
              have q736 := J713.keep t668 (by decide) (K688 _ 13 8 _ q685)
              have t737 := J713.up t669
              refine mv_aload_n d_TrustDeskModel_readRule_257 rfl rfl ?_
              obtain ⟨a739, q738, t_a739⟩ := tm_atR I714 t719 (k := 12) rfl
              refine tr_getK q738 d_TrustDeskModel_readRule_258 f_TrustDeskModel_41_13 ?_
              refine mv_iload_n d_TrustDeskModel_readRule_261 rfl rfl ?_
              refine mv_aload_n d_TrustDeskModel_readRule_262 rfl rfl ?_
              obtain ⟨a741, q740, t_a741⟩ := tm_atR I714 t719 (k := 5) rfl
              refine tr_getK q740 d_TrustDeskModel_readRule_263 f_TrustDeskModel_20_13 ?_
              refine mv_bipush (v := 44) d_TrustDeskModel_readRule_266 (by decide) ?_
              refine tr_ialdR (o := o0) (k := 5) I714 q740 t_a741 (by decide) d_TrustDeskModel_readRule_268 (by unfold vp_in; decide) (fun v742 e743 => ?_)
              have := R716.a (k := 5) rfl (44 : Int32).toNatClampNeg
              have : v742.toInt = ra M710 o0 5 44 := e743
              have : v742.toInt = _ := Eq.trans e743 z724
              refine tr_iastR (k := 12) I714 R716 (I714.up h_o0) q738 t_a739 (by decide) (by decide) (fun lo hi h => by cases h; have := R716.1 15 _ _ rfl; have := R716.1 16 _ _ rfl; have := R716.1 19 _ _ rfl; exact ⟨by show (0 : Int) ≤ v742.toInt; omega, by show v742.toInt ≤ (400 : Int); omega⟩) (Or.inl (by decide)) d_TrustDeskModel_readRule_269 (vp_in_iff.mpr (by have := R716.1 15 _ _ rfl; have := R716.1 16 _ _ rfl; have := R716.1 19 _ _ rfl; omega)) (fun M744 I745 K746 R747 E748 A749 V750 => ?_)
              have z751 := (V750 15)
              have z752 := (V750 16)
              have z753 := (V750 17)
              have z754 := (V750 19)
              have z755 := (V750 22).trans z722
              have z756 := (V750 24).trans z723
              have z757 := (A749 5 (by decide) rfl 44).trans z724
              have z758 := (A749 6 (by decide) rfl 44).trans z725
              have z759 := (A749 7 (by decide) rfl ((880 + ra M0 o0 6 44).toNat)).trans z726
              have z760 := (A749 10 (by decide) rfl ((880 + ra M0 o0 6 44).toNat)).trans z727
              have z761 := (A749 8 (by decide) rfl ((880 + ra M0 o0 6 44).toNat)).trans z728
              have E762 : rE M0 M744 o0 0 3 := E729.same (fun k _ _ => V750 k) (fun k h1 h2 => A749 k (by omega) (by rcases (show k = 4 ∨ k = 5 by omega) with rfl | rfl <;> rfl))
              have h763 : (880 + ra M0 o0 6 44).toNat = v44.toNatClampNeg := by have := mz_nat9 (i := v44) (by have := R716.1 15 _ _ rfl; have := R716.1 16 _ _ rfl; have := R716.1 19 _ _ rfl; omega); have := R716.1 15 _ _ rfl; have := R716.1 16 _ _ rfl; have := R716.1 19 _ _ rfl; omega
              have z764 : ra M744 o0 12 ((880 + ra M0 o0 6 44).toNat) = v742.toInt := (E748 _).trans (if_pos h763)
              have K765 : rK M0 M744 o0 ((880 + ra M0 o0 6 44).toNat) := K730.st A749 E748 (by have := mz_nat9 (i := v44) (by have := R716.1 15 _ _ rfl; have := R716.1 16 _ _ rfl; have := R716.1 19 _ _ rfl; omega); have := R716.1 15 _ _ rfl; have := R716.1 16 _ _ rfl; have := R716.1 19 _ _ rfl; omega)
              have K766 : nN M744 o0 := K731.same (sA_a A749 (by decide +kernel)) (sF_a V750)
              have Z9767 : pO M744 o0 pb pn pa s732 := f718.same (fun k _ _ => V750 k) (V750 23) (A749 13 (by decide) rfl)
              clear z722 z723 z724 z725 z726 z727 z728
              exact mv_vret d_TrustDeskModel_readRule_270 rfl ⟨_, I745, rfl, R747, (rW.of E762.1 (E762.s yS (by decide)) (fun w9 => by have u91 : rv M710 o0 19 = 0 := (by omega); have := f720.o u91; have := f721.o u91; have u92 : rv M656 o0 19 = 0 := (by omega); have := f670.o u92; have := f671.o u92; have := f667.o u92; have u93 : rv M38 o0 19 = 0 := (by omega); have := f54.o u93; have := f55.o u93; exact rG.step yG yR E762 w9 K765 (by have := yR.2 6 _ _ rfl 44; omega) (by have := R747.1 15 _ _ rfl; have := R747.1 16 _ _ rfl; have := R747.1 19 _ _ rfl; omega) (by have := R747.1 15 _ _ rfl; have := R747.1 16 _ _ rfl; have := R747.1 19 _ _ rfl; omega) (fun h9 => by exfalso; have := R747.1 15 _ _ rfl; have := R747.1 16 _ _ rfl; have := R747.1 19 _ _ rfl; omega) (fun h9 => (by have := R747.1 15 _ _ rfl; have := R747.1 16 _ _ rfl; have := R747.1 19 _ _ rfl; omega)) (by have := R747.1 15 _ _ rfl; have := R747.1 16 _ _ rfl; have := R747.1 19 _ _ rfl; omega) K766)), (rO.of E762 K765 (by have := yR.2 6 _ _ rfl 44; omega)), ⟨E762.2.1, fun w9 => by skip; have := E762.w2 w9; omega⟩, (fun w9 => by have u91 : rv M710 o0 19 = 0 := (by omega); have := f720.o u91; have := f721.o u91; have u92 : rv M656 o0 19 = 0 := (by omega); have := f670.o u92; have := f671.o u92; have := f667.o u92; have u93 : rv M38 o0 19 = 0 := (by omega); have := f54.o u93; have := f55.o u93; omega), (by first | (have hlo : p_lo (p_wi pb pn ps.2.2) = 0 := (by unfold p_lo; split <;> omega); have hhi : p_hi (p_wi pb pn ps.2.2) = 20 := (by unfold p_hi; (repeat' split) <;> omega); rw [show p_rul pb pn pa pc9 ps = s732 from (by unfold p_rul; unfold p_bar; rw [hlo, hhi]; (try simp only [e65, e682, e733]); ((repeat' (first | (with_reducible rfl) | split)) <;> (first | ((try simp only [e65, e682, e733]); done) | ((try simp only [e65, e682, e733]); first | exact p_sg_Z _ (by omega) | exact (p_sg_Z _ (by omega)).symm | omega) | (exfalso; omega))))]; exact Z9767) | (exfalso; have := R747.1 15 _ _ rfl; have := R747.1 16 _ _ rfl; have := R747.1 19 _ _ rfl; omega)), (fun w9 => by have u91 : rv M710 o0 19 = 0 := (by omega); have := f720.o u91; have := f721.o u91; have u92 : rv M656 o0 19 = 0 := (by omega); have := f670.o u92; have := f671.o u92; have := f667.o u92; have u93 : rv M38 o0 19 = 0 := (by omega); have := f54.o u93; have := f55.o u93; omega)⟩
        · refine mv_aload_n d_TrustDeskModel_readRule_55 rfl rfl ?_
          obtain ⟨a769, q768, t_a769⟩ := tm_atR I42 t53 (k := 8) rfl
          refine tr_getK q768 d_TrustDeskModel_readRule_56 f_TrustDeskModel_29_13 ?_
          refine mv_iload_n d_TrustDeskModel_readRule_59 rfl rfl ?_
          refine mv_aload_n d_TrustDeskModel_readRule_60 rfl rfl ?_
          refine mv_ldcSw (id := 21) (tx := "near") d_TrustDeskModel_readRule_61 (List.mem_of_getElem? (i := 11) rfl) ?_
          obtain ⟨_, b776, -⟩ := I42.1 _ _ t53
          refine mv_callV (kc' := 0) (ks' := 0) (As := [.ref 21]) (st9 := [.ref 21, .ref o0, .int v44, .ref a769]) d_TrustDeskModel_readRule_64 lV_TrustDeskModel_244 b776 rfl (tc_TrustDeskModel_isWord_s1_21_x (d := (d + 20)) (x9 := x9) (o0 := o0) t53 R45 I42.start) rfl (Nat.le_of_ble_eq_true rfl) (Nat.le_of_ble_eq_true rfl) (Nat.le_of_ble_eq_true rfl) (hst := rfl) (fun b770r M771 n772 b770 => ?_)
          obtain ⟨T773, J774, v777, rfl, b778, b779, R780, f781, f782, f783⟩ := b770
          have I775 := I42.call J774 (tm_sub (by decide)) (Or.inl rfl)
          have t784 := J774.up t53
          have t785 := J774.up t_a769
          replace f781 := Im.i f781
          replace f782 := Im.i f782
          replace f783 := Im.i f783
          have z786 := (rv_c I42 J774 (I42.up h_o0) (k := 15) rfl)
          have z787 := (rv_c I42 J774 (I42.up h_o0) (k := 16) rfl)
          have z788 := (rv_c I42 J774 (I42.up h_o0) (k := 17) rfl)
          have z789 := (rv_c I42 J774 (I42.up h_o0) (k := 19) rfl).trans z56
          have z790 := (rv_c I42 J774 (I42.up h_o0) (k := 22) rfl).trans z57
          have z791 := (rv_c I42 J774 (I42.up h_o0) (k := 24) rfl).trans z58
          have z792 := (ra_call I42 J774 (I42.up h_o0) (k := 5) rfl rfl rfl 44).trans z59
          have z793 := (ra_call I42 J774 (I42.up h_o0) (k := 6) rfl rfl rfl 44)
          have z794 := (ra_call I42 J774 (I42.up h_o0) (k := 7) rfl rfl rfl ((880 + ra M0 o0 6 44).toNat))
          have z795 := (ra_call I42 J774 (I42.up h_o0) (k := 10) rfl rfl rfl ((880 + ra M0 o0 6 44).toNat))
          have E796 : rE M0 M771 o0 0 1 := E60.same (rE_hv I42 J774 (I42.up h_o0) 15 19 (by decide)) (rE_ha I42 J774 (I42.up h_o0) (by decide))
          have K797 : rK M0 M771 o0 ((880 + ra M0 o0 6 44).toNat) := K62.same (sA_c I42 J774 (I42.up h_o0) (by decide +kernel))
          have K798 : nN M771 o0 := K63.same (sA_c I42 J774 (I42.up h_o0) (by decide +kernel)) (sF_c I42 J774 (I42.up h_o0) (by decide +kernel))
          have Z9799 : pO M771 o0 pb pn pa s64 := f52.same (rE_hv I42 J774 (I42.up h_o0) 14 20 (by decide)) (rv_c I42 J774 (I42.up h_o0) (k := 23) rfl) (ra_call I42 J774 (I42.up h_o0) (k := 13) rfl rfl rfl)
          have d800 := Im.i (pO.w_19 f52 (by have := R45.1 15 _ _ rfl; have := R45.1 16 _ _ rfl; have := R45.1 19 _ _ rfl; omega) (Im.o f782) (Im.o f783) (by have := R45.1 15 _ _ rfl; have := R45.1 16 _ _ rfl; have := R45.1 19 _ _ rfl; omega))
          clear z57 z58 z59
          have q801 := J774.keep t53 (by decide) q66
          have t802 := J774.up t67
          have q803 := J774.keep t53 (by decide) q68
          have q804 := J774.keep t53 (by decide) q768
          have := mz_hi v777
          refine mv_if_eqZ (tgt := 74) (a := v777.toInt) d_TrustDeskModel_readRule_67 (by decide) rfl (fun b805 => ?_) (fun b805 => ?_)
          · refine mv_aload_n d_TrustDeskModel_readRule_74 rfl rfl ?_
            refine mv_ldcSw (id := 22) (tx := "join") d_TrustDeskModel_readRule_75 (List.mem_of_getElem? (i := 12) rfl) ?_
            obtain ⟨_, b812, -⟩ := I775.1 _ _ t784
            refine mv_callV (kc' := 0) (ks' := 0) (As := [.ref 22]) (st9 := [.ref 22, .ref o0, .int v44, .ref a769]) d_TrustDeskModel_readRule_78 lV_TrustDeskModel_244 b812 rfl (tc_TrustDeskModel_isWord_s1_22_x (d := (d + 20)) (x9 := x9) (o0 := o0) t784 R780 I775.start) rfl (Nat.le_of_ble_eq_true rfl) (Nat.le_of_ble_eq_true rfl) (Nat.le_of_ble_eq_true rfl) (hst := rfl) (fun b806r M807 n808 b806 => ?_)
            obtain ⟨T809, J810, v813, rfl, b814, b815, R816, f817, f818, f819⟩ := b806
            have I811 := I775.call J810 (tm_sub (by decide)) (Or.inl rfl)
            have t820 := J810.up t784
            have t821 := J810.up t785
            replace f817 := Im.i f817
            replace f818 := Im.i f818
            replace f819 := Im.i f819
            have z822 := (rv_c I775 J810 (I775.up h_o0) (k := 15) rfl).trans z786
            have z823 := (rv_c I775 J810 (I775.up h_o0) (k := 16) rfl).trans z787
            have z824 := (rv_c I775 J810 (I775.up h_o0) (k := 17) rfl).trans z788
            have z825 := (rv_c I775 J810 (I775.up h_o0) (k := 19) rfl).trans z789
            have z826 := (rv_c I775 J810 (I775.up h_o0) (k := 22) rfl).trans z790
            have z827 := (rv_c I775 J810 (I775.up h_o0) (k := 24) rfl).trans z791
            have z828 := (ra_call I775 J810 (I775.up h_o0) (k := 5) rfl rfl rfl 44).trans z792
            have z829 := (ra_call I775 J810 (I775.up h_o0) (k := 6) rfl rfl rfl 44).trans z793
            have z830 := (ra_call I775 J810 (I775.up h_o0) (k := 7) rfl rfl rfl ((880 + ra M0 o0 6 44).toNat)).trans z794
            have z831 := (ra_call I775 J810 (I775.up h_o0) (k := 10) rfl rfl rfl ((880 + ra M0 o0 6 44).toNat)).trans z795
            have E832 : rE M0 M807 o0 0 1 := E796.same (rE_hv I775 J810 (I775.up h_o0) 15 19 (by decide)) (rE_ha I775 J810 (I775.up h_o0) (by decide))
            have K833 : rK M0 M807 o0 ((880 + ra M0 o0 6 44).toNat) := K797.same (sA_c I775 J810 (I775.up h_o0) (by decide +kernel))
            have K834 : nN M807 o0 := K798.same (sA_c I775 J810 (I775.up h_o0) (by decide +kernel)) (sF_c I775 J810 (I775.up h_o0) (by decide +kernel))
            have Z9835 : pO M807 o0 pb pn pa s64 := Z9799.same (rE_hv I775 J810 (I775.up h_o0) 14 20 (by decide)) (rv_c I775 J810 (I775.up h_o0) (k := 23) rfl) (ra_call I775 J810 (I775.up h_o0) (k := 13) rfl rfl rfl)
            have d836 := Im.i (pO.w_20 Z9799 (by have := R780.1 15 _ _ rfl; have := R780.1 16 _ _ rfl; have := R780.1 19 _ _ rfl; omega) (Im.o f818) (Im.o f819) (by have := R780.1 15 _ _ rfl; have := R780.1 16 _ _ rfl; have := R780.1 19 _ _ rfl; omega))
            clear z790 z791 z792 z793 z794 z795
            have q837 := J810.keep t784 (by decide) q801
            have t838 := J810.up t802
            have q839 := J810.keep t784 (by decide) q803
            have q840 := J810.keep t784 (by decide) q804
            have := mz_hi v813
            refine mv_if_eqZ (tgt := 88) (a := v813.toInt) d_TrustDeskModel_readRule_81 (by decide) rfl (fun b841 => ?_) (fun b841 => ?_)
            · refine mv_aload_n d_TrustDeskModel_readRule_88 rfl rfl ?_
              refine mv_ldcSw (id := 23) (tx := "sale") d_TrustDeskModel_readRule_89 (List.mem_of_getElem? (i := 13) rfl) ?_
              obtain ⟨_, b848, -⟩ := I811.1 _ _ t820
              refine mv_callV (kc' := 0) (ks' := 0) (As := [.ref 23]) (st9 := [.ref 23, .ref o0, .int v44, .ref a769]) d_TrustDeskModel_readRule_92 lV_TrustDeskModel_244 b848 rfl (tc_TrustDeskModel_isWord_s1_23_x (d := (d + 20)) (x9 := x9) (o0 := o0) t820 R816 I811.start) rfl (Nat.le_of_ble_eq_true rfl) (Nat.le_of_ble_eq_true rfl) (Nat.le_of_ble_eq_true rfl) (hst := rfl) (fun b842r M843 n844 b842 => ?_)
              obtain ⟨T845, J846, v849, rfl, b850, b851, R852, f853, f854, f855⟩ := b842
              have I847 := I811.call J846 (tm_sub (by decide)) (Or.inl rfl)
              have t856 := J846.up t820
              have t857 := J846.up t821
              replace f853 := Im.i f853
              replace f854 := Im.i f854
              replace f855 := Im.i f855
              have z858 := (rv_c I811 J846 (I811.up h_o0) (k := 15) rfl).trans z822
              have z859 := (rv_c I811 J846 (I811.up h_o0) (k := 16) rfl).trans z823
              have z860 := (rv_c I811 J846 (I811.up h_o0) (k := 17) rfl).trans z824
              have z861 := (rv_c I811 J846 (I811.up h_o0) (k := 19) rfl).trans z825
              have z862 := (rv_c I811 J846 (I811.up h_o0) (k := 22) rfl).trans z826
              have z863 := (rv_c I811 J846 (I811.up h_o0) (k := 24) rfl).trans z827
              have z864 := (ra_call I811 J846 (I811.up h_o0) (k := 5) rfl rfl rfl 44).trans z828
              have z865 := (ra_call I811 J846 (I811.up h_o0) (k := 6) rfl rfl rfl 44).trans z829
              have z866 := (ra_call I811 J846 (I811.up h_o0) (k := 7) rfl rfl rfl ((880 + ra M0 o0 6 44).toNat)).trans z830
              have z867 := (ra_call I811 J846 (I811.up h_o0) (k := 10) rfl rfl rfl ((880 + ra M0 o0 6 44).toNat)).trans z831
              have E868 : rE M0 M843 o0 0 1 := E832.same (rE_hv I811 J846 (I811.up h_o0) 15 19 (by decide)) (rE_ha I811 J846 (I811.up h_o0) (by decide))
              have K869 : rK M0 M843 o0 ((880 + ra M0 o0 6 44).toNat) := K833.same (sA_c I811 J846 (I811.up h_o0) (by decide +kernel))
              have K870 : nN M843 o0 := K834.same (sA_c I811 J846 (I811.up h_o0) (by decide +kernel)) (sF_c I811 J846 (I811.up h_o0) (by decide +kernel))
              have Z9871 : pO M843 o0 pb pn pa s64 := Z9835.same (rE_hv I811 J846 (I811.up h_o0) 14 20 (by decide)) (rv_c I811 J846 (I811.up h_o0) (k := 23) rfl) (ra_call I811 J846 (I811.up h_o0) (k := 13) rfl rfl rfl)
              have d872 := Im.i (pO.w_21 Z9835 (by have := R816.1 15 _ _ rfl; have := R816.1 16 _ _ rfl; have := R816.1 19 _ _ rfl; omega) (Im.o f854) (Im.o f855) (by have := R816.1 15 _ _ rfl; have := R816.1 16 _ _ rfl; have := R816.1 19 _ _ rfl; omega))
              clear z826 z827 z828 z829 z830 z831
              have q873 := J846.keep t820 (by decide) q837
              have t874 := J846.up t838
              have q875 := J846.keep t820 (by decide) q839
              have q876 := J846.keep t820 (by decide) q840
              have := mz_hi v849
              refine mv_if_eqZ (tgt := 102) (a := v849.toInt) d_TrustDeskModel_readRule_95 (by decide) rfl (fun b877 => ?_) (fun b877 => ?_)
              · refine mv_aload_n d_TrustDeskModel_readRule_102 rfl rfl ?_
                refine mv_ldcSw (id := 24) (tx := "strike") d_TrustDeskModel_readRule_103 (List.mem_of_getElem? (i := 14) rfl) ?_
                obtain ⟨_, b884, -⟩ := I847.1 _ _ t856
                refine mv_callV (kc' := 0) (ks' := 0) (As := [.ref 24]) (st9 := [.ref 24, .ref o0, .int v44, .ref a769]) d_TrustDeskModel_readRule_106 lV_TrustDeskModel_244 b884 rfl (tc_TrustDeskModel_isWord_s1_24_x (d := (d + 20)) (x9 := x9) (o0 := o0) t856 R852 I847.start) rfl (Nat.le_of_ble_eq_true rfl) (Nat.le_of_ble_eq_true rfl) (Nat.le_of_ble_eq_true rfl) (hst := rfl) (fun b878r M879 n880 b878 => ?_)
                obtain ⟨T881, J882, v885, rfl, b886, b887, R888, f889, f890, f891⟩ := b878
                have I883 := I847.call J882 (tm_sub (by decide)) (Or.inl rfl)
                have t892 := J882.up t856
                have t893 := J882.up t857
                replace f889 := Im.i f889
                replace f890 := Im.i f890
                replace f891 := Im.i f891
                have z894 := (rv_c I847 J882 (I847.up h_o0) (k := 15) rfl).trans z858
                have z895 := (rv_c I847 J882 (I847.up h_o0) (k := 16) rfl).trans z859
                have z896 := (rv_c I847 J882 (I847.up h_o0) (k := 17) rfl).trans z860
                have z897 := (rv_c I847 J882 (I847.up h_o0) (k := 19) rfl).trans z861
                have z898 := (rv_c I847 J882 (I847.up h_o0) (k := 22) rfl).trans z862
                have z899 := (rv_c I847 J882 (I847.up h_o0) (k := 24) rfl).trans z863
                have z900 := (ra_call I847 J882 (I847.up h_o0) (k := 5) rfl rfl rfl 44).trans z864
                have z901 := (ra_call I847 J882 (I847.up h_o0) (k := 6) rfl rfl rfl 44).trans z865
                have z902 := (ra_call I847 J882 (I847.up h_o0) (k := 7) rfl rfl rfl ((880 + ra M0 o0 6 44).toNat)).trans z866
                have z903 := (ra_call I847 J882 (I847.up h_o0) (k := 10) rfl rfl rfl ((880 + ra M0 o0 6 44).toNat)).trans z867
                have E904 : rE M0 M879 o0 0 1 := E868.same (rE_hv I847 J882 (I847.up h_o0) 15 19 (by decide)) (rE_ha I847 J882 (I847.up h_o0) (by decide))
                have K905 : rK M0 M879 o0 ((880 + ra M0 o0 6 44).toNat) := K869.same (sA_c I847 J882 (I847.up h_o0) (by decide +kernel))
                have K906 : nN M879 o0 := K870.same (sA_c I847 J882 (I847.up h_o0) (by decide +kernel)) (sF_c I847 J882 (I847.up h_o0) (by decide +kernel))
                have Z9907 : pO M879 o0 pb pn pa s64 := Z9871.same (rE_hv I847 J882 (I847.up h_o0) 14 20 (by decide)) (rv_c I847 J882 (I847.up h_o0) (k := 23) rfl) (ra_call I847 J882 (I847.up h_o0) (k := 13) rfl rfl rfl)
                have d908 := Im.i (pO.w_22 Z9871 (by have := R852.1 15 _ _ rfl; have := R852.1 16 _ _ rfl; have := R852.1 19 _ _ rfl; omega) (Im.o f890) (Im.o f891) (by have := R852.1 15 _ _ rfl; have := R852.1 16 _ _ rfl; have := R852.1 19 _ _ rfl; omega))
                clear z862 z863 z864 z865 z866 z867
                have q909 := J882.keep t856 (by decide) q873
                have t910 := J882.up t874
                have q911 := J882.keep t856 (by decide) q875
                have q912 := J882.keep t856 (by decide) q876
                have := mz_hi v885
                refine mv_if_eqZ (tgt := 116) (a := v885.toInt) d_TrustDeskModel_readRule_109 (by decide) rfl (fun b913 => ?_) (fun b913 => ?_)
                · refine mv_iconst (v := (-1)) d_TrustDeskModel_readRule_116 (by decide) ?_
                  refine tr_iastR (k := 8) I883 R888 (I883.up h_o0) q912 t893 (by decide) (by decide) (fun lo hi h => by cases h; have e9 : ((-1) : Int32).toInt = (-1) := (by decide); exact ⟨by show ((-1) : Int) ≤ ((-1) : Int32).toInt; omega, by show ((-1) : Int32).toInt ≤ (720 : Int); omega⟩) (Or.inl (by decide)) d_TrustDeskModel_readRule_117 (vp_in_iff.mpr (by have := R888.1 15 _ _ rfl; have := R888.1 16 _ _ rfl; have := R888.1 19 _ _ rfl; omega)) (fun M914 I915 K916 R917 E918 A919 V920 => ?_)
                  have z921 := (V920 15).trans z894
                  have z922 := (V920 16).trans z895
                  have z923 := (V920 17).trans z896
                  have z924 := (V920 19).trans z897
                  have z925 := (V920 22).trans z898
                  have z926 := (V920 24).trans z899
                  have z927 := (A919 5 (by decide) rfl 44).trans z900
                  have z928 := (A919 6 (by decide) rfl 44).trans z901
                  have z929 := (A919 7 (by decide) rfl ((880 + ra M0 o0 6 44).toNat)).trans z902
                  have z930 := (A919 10 (by decide) rfl ((880 + ra M0 o0 6 44).toNat)).trans z903
                  have E931 : rE M0 M914 o0 0 1 := E904.same (fun k _ _ => V920 k) (fun k h1 h2 => A919 k (by omega) (by rcases (show k = 4 ∨ k = 5 by omega) with rfl | rfl <;> rfl))
                  have h932 : (880 + ra M0 o0 6 44).toNat = v44.toNatClampNeg := by have := mz_nat9 (i := v44) (by have := R888.1 15 _ _ rfl; have := R888.1 16 _ _ rfl; have := R888.1 19 _ _ rfl; omega); have := R888.1 15 _ _ rfl; have := R888.1 16 _ _ rfl; have := R888.1 19 _ _ rfl; omega
                  have z933 : ra M914 o0 8 ((880 + ra M0 o0 6 44).toNat) = (-1) := (E918 _).trans (if_pos h932)
                  have K934 : rK M0 M914 o0 ((880 + ra M0 o0 6 44).toNat) := K905.st A919 E918 (by have := mz_nat9 (i := v44) (by have := R888.1 15 _ _ rfl; have := R888.1 16 _ _ rfl; have := R888.1 19 _ _ rfl; omega); have := R888.1 15 _ _ rfl; have := R888.1 16 _ _ rfl; have := R888.1 19 _ _ rfl; omega)
                  have K935 : nN M914 o0 := K906.same (sA_a A919 (by decide +kernel)) (sF_a V920)
                  have Z9936 : pO M914 o0 pb pn pa s64 := Z9907.same (fun k _ _ => V920 k) (V920 23) (A919 13 (by decide) rfl)
                  clear z894 z895 z896 z898 z899 z900 z901 z902 z903
                  refine mv_aload_n d_TrustDeskModel_readRule_118 rfl rfl ?_
                  refine tr_getK (k := 8) (K916 _ 13 8 _ q912) d_TrustDeskModel_readRule_119 f_TrustDeskModel_29_13 ?_
                  refine mv_iload_n d_TrustDeskModel_readRule_122 rfl rfl ?_
                  refine tr_ialdR (o := o0) (k := 8) I915 (K916 _ 13 8 _ q912) t893 (by decide) d_TrustDeskModel_readRule_123 (vp_in_iff.mpr (by have := R917.1 15 _ _ rfl; have := R917.1 16 _ _ rfl; have := R917.1 19 _ _ rfl; omega)) (fun v937 e938 => ?_)
                  have := R917.a (k := 8) rfl (v44 : Int32).toNatClampNeg
                  have h939 : (880 + ra M0 o0 6 44).toNat = v44.toNatClampNeg := by have := mz_nat9 (i := v44) (by have := R917.1 15 _ _ rfl; have := R917.1 16 _ _ rfl; have := R917.1 19 _ _ rfl; omega); have := R917.1 15 _ _ rfl; have := R917.1 16 _ _ rfl; have := R917.1 19 _ _ rfl; omega
                  have z940 : v937.toInt = ra M914 o0 8 ((880 + ra M0 o0 6 44).toNat) := by rw [e938, h939]
                  have : v937.toInt = _ := Eq.trans z940 z933
                  refine mv_iconst (v := (-1)) d_TrustDeskModel_readRule_124 (by decide) ?_
                  have := mz_hi v937
                  refine mv_icmp_neZ (tgt := 133) (a := v937.toInt) (b := (-1)) d_TrustDeskModel_readRule_125 (by decide) rfl (by decide) (fun b941 => absurd b941 (by omega)) (fun b941 => ?_)
                  refine mv_aload_n d_TrustDeskModel_readRule_128 rfl rfl ?_
                  refine mv_iconst (v := 1) d_TrustDeskModel_readRule_129 (by decide) ?_
                  obtain ⟨_, b948, -⟩ := I915.1 _ _ t892
                  have : (1 : Int32).toInt = 1 := by decide
                  refine mv_callV (kc' := 0) (ks' := 0) (As := [.int 1]) (st9 := [.int 1, .ref o0]) d_TrustDeskModel_readRule_130 lV_TrustDeskModel_240 b948 rfl (tc_TrustDeskModel_fails_x (d := (d + 24)) (x9 := x9) (o0 := o0) (x1 := 1) t892 R917 (by decide) Z9936 I915.start) rfl (Nat.le_of_ble_eq_true rfl) (Nat.le_of_ble_eq_true rfl) (Nat.le_of_ble_eq_true rfl) (hst := rfl) (fun b942r M943 n944 b942 => ?_)
                  obtain ⟨T945, J946, rfl, R949, f950, f951⟩ := b942
                  have I947 := I915.call J946 (tm_sub (by decide)) (Or.inl rfl)
                  have t952 := J946.up t892
                  have z953 := (rv_c I915 J946 (I915.up h_o0) (k := 15) rfl).trans z921
                  have z954 := (rv_c I915 J946 (I915.up h_o0) (k := 16) rfl).trans z922
                  have z955 := (rv_c I915 J946 (I915.up h_o0) (k := 17) rfl).trans z923
                  have z956 := (rv_c I915 J946 (I915.up h_o0) (k := 22) rfl).trans z925
                  have z957 := (rv_c I915 J946 (I915.up h_o0) (k := 24) rfl).trans z926
                  have z958 := (ra_call I915 J946 (I915.up h_o0) (k := 5) rfl rfl rfl 44).trans z927
                  have z959 := (ra_call I915 J946 (I915.up h_o0) (k := 6) rfl rfl rfl 44).trans z928
                  have z960 := (ra_call I915 J946 (I915.up h_o0) (k := 7) rfl rfl rfl ((880 + ra M0 o0 6 44).toNat)).trans z929
                  have z961 := (ra_call I915 J946 (I915.up h_o0) (k := 10) rfl rfl rfl ((880 + ra M0 o0 6 44).toNat)).trans z930
                  have z962 := (ra_call I915 J946 (I915.up h_o0) (k := 8) rfl rfl rfl ((880 + ra M0 o0 6 44).toNat)).trans z933
                  have E963 : rE M0 M943 o0 0 1 := E931.fails (rE_hv I915 J946 (I915.up h_o0) 15 18 (by decide)) (rE_ha I915 J946 (I915.up h_o0) (by decide)) f950 0 1
                  have K964 : rK M0 M943 o0 ((880 + ra M0 o0 6 44).toNat) := K934.same (sA_c I915 J946 (I915.up h_o0) (by decide +kernel))
                  have K965 : nN M943 o0 := K935.same (sA_c I915 J946 (I915.up h_o0) (by decide +kernel)) (sF_c I915 J946 (I915.up h_o0) (by decide +kernel))
                  rw [show (1 : Int32).toInt = 1 from by decide] at f951
                  obtain ⟨s966, e967⟩ : ∃ s9 : p_S, p_fl pb pn 1 s64 = s9 := ⟨_, rfl⟩
                  rw [e967] at f951
                  have := f951.w
                  clear z921 z922 z923 z925 z926 z927 z928 z929 z930 z933
                  have q968 := J946.keep t892 (by decide) (K916 _ 13 6 _ q909)
                  have t969 := J946.up t910
                  have q970 := J946.keep t892 (by decide) (K916 _ 13 8 _ q912)
                  have t971 := J946.up t893
                  refine mv_aload_n d_TrustDeskModel_readRule_133 rfl rfl ?_
                  obtain ⟨_, b972, -⟩ := I947.1 _ _ t952
                  refine mv_callV (kc1 := 0) (ks1 := 0) (kc' := 0) (ks' := 0) (As := []) (st9 := [.ref o0]) d_TrustDeskModel_readRule_134 lV_TrustDeskModel_230 b972 rfl (mj_enter (by decide) (Nat.le_of_ble_eq_true rfl) ?_) rfl (Nat.le_of_ble_eq_true rfl) (Nat.le_of_ble_eq_true rfl) (Nat.le_of_ble_eq_true rfl) (hst := rfl) (fun _ _ _ h => h)
                  refine mv_aload_n d_TrustDeskModel_isWell_0 rfl rfl ?_
                  obtain ⟨v974, q973⟩ := tm_atI I947 t952 (k := 19) rfl
                  refine tr_getK q973 d_TrustDeskModel_isWell_1 f_TrustDeskModel_224_13 ?_
                  have := R949.f (k := 19) q973 rfl
                  have := tm_rv q973
                  refine mv_if_neZ (tgt := 11) (a := v974.toInt) d_TrustDeskModel_isWell_4 (by decide) rfl (fun b975 => ?_) (fun b975 => ?_)
                  · refine mv_iconst (v := 0) d_TrustDeskModel_isWell_11 (by decide) ?_
                    refine mv_iret d_TrustDeskModel_isWell_12 rfl (by decide) ?_
                    refine mv_if_eq_t (tgt := 144) d_TrustDeskModel_readRule_137 (by decide) (by decide) ?_
                    refine mv_aload_n d_TrustDeskModel_readRule_144 rfl rfl ?_
                    refine mv_ldcSw (id := 25) (tx := "if") d_TrustDeskModel_readRule_145 (List.mem_of_getElem? (i := 15) rfl) ?_
                    obtain ⟨_, b982, -⟩ := I947.1 _ _ t952
                    refine mv_callV (kc' := 0) (ks' := 0) (As := [.ref 25]) (st9 := [.ref 25, .ref o0]) d_TrustDeskModel_readRule_148 lV_TrustDeskModel_329 b982 rfl (tc_TrustDeskModel_wantWord_s1_25_x (d := (d + 19)) (x9 := x9) (o0 := o0) t952 R949 E963.1 (E963.s yS (by decide)) f951 I947.start) rfl (Nat.le_of_ble_eq_true rfl) (Nat.le_of_ble_eq_true rfl) (Nat.le_of_ble_eq_true rfl) (hst := rfl) (fun b976r M977 n978 b976 => ?_)
                    obtain ⟨T979, J980, rfl, R983, f984, f985⟩ := b976
                    have I981 := I947.call J980 (tm_sub (by decide)) (Or.inl rfl)
                    have t986 := J980.up t952
                    have := f984.2.1
                    have f987 := Im.i f984.w.2
                    have f988 := Im.i f984.w2
                    have z989 := (rv_c I947 J980 (I947.up h_o0) (k := 22) rfl).trans z956
                    have z990 := (rv_c I947 J980 (I947.up h_o0) (k := 24) rfl).trans z957
                    have z991 := (ra_call I947 J980 (I947.up h_o0) (k := 5) rfl rfl rfl 44).trans z958
                    have z992 := (ra_call I947 J980 (I947.up h_o0) (k := 6) rfl rfl rfl 44).trans z959
                    have z993 := (ra_call I947 J980 (I947.up h_o0) (k := 7) rfl rfl rfl ((880 + ra M0 o0 6 44).toNat)).trans z960
                    have z994 := (ra_call I947 J980 (I947.up h_o0) (k := 10) rfl rfl rfl ((880 + ra M0 o0 6 44).toNat)).trans z961
                    have z995 := (ra_call I947 J980 (I947.up h_o0) (k := 8) rfl rfl rfl ((880 + ra M0 o0 6 44).toNat)).trans z962
                    have E996 : rE M0 M977 o0 0 2 := E963.trans f984 (by decide) (yR.2 5 _ _ rfl 44).1 (by decide) (by decide)
                    have K997 : rK M0 M977 o0 ((880 + ra M0 o0 6 44).toNat) := K964.same (sA_c I947 J980 (I947.up h_o0) (by decide +kernel))
                    have K998 : nN M977 o0 := K965.same (sA_c I947 J980 (I947.up h_o0) (by decide +kernel)) (sF_c I947 J980 (I947.up h_o0) (by decide +kernel))
                    obtain ⟨s999, e1000⟩ : ∃ s9 : p_S, p_wd pb pn 28 s966 = s9 := ⟨_, rfl⟩
                    rw [e1000] at f985
                    have := f985.w
                    clear z956 z957 z958 z959 z960 z961 z962
                    have q1001 := J980.keep t952 (by decide) q968
                    have t1002 := J980.up t969
                    have q1003 := J980.keep t952 (by decide) q970
                    have t1004 := J980.up t971
                    refine mv_aload_n d_TrustDeskModel_readRule_151 rfl rfl ?_
                    obtain ⟨a1006, q1005, t_a1006⟩ := tm_atR I981 t986 (k := 11) rfl
                    refine tr_getK q1005 d_TrustDeskModel_readRule_152 f_TrustDeskModel_38_13 ?_
                    refine mv_iload_n d_TrustDeskModel_readRule_155 rfl rfl ?_
                    refine mv_aload_n d_TrustDeskModel_readRule_156 rfl rfl ?_
                    obtain ⟨a1008, q1007, t_a1008⟩ := tm_atR I981 t986 (k := 5) rfl
                    refine tr_getK q1007 d_TrustDeskModel_readRule_157 f_TrustDeskModel_20_13 ?_
                    refine mv_bipush (v := 44) d_TrustDeskModel_readRule_160 (by decide) ?_
                    refine tr_ialdR (o := o0) (k := 5) I981 q1007 t_a1008 (by decide) d_TrustDeskModel_readRule_162 (by unfold vp_in; decide) (fun v1009 e1010 => ?_)
                    have := R983.a (k := 5) rfl (44 : Int32).toNatClampNeg
                    have : v1009.toInt = ra M977 o0 5 44 := e1010
                    have : v1009.toInt = _ := Eq.trans e1010 z991
                    refine tr_iastR (k := 11) I981 R983 (I981.up h_o0) q1005 t_a1006 (by decide) (by decide) (fun lo hi h => by cases h; have := R983.1 15 _ _ rfl; have := R983.1 16 _ _ rfl; have := R983.1 19 _ _ rfl; exact ⟨by show (0 : Int) ≤ v1009.toInt; omega, by show v1009.toInt ≤ (400 : Int); omega⟩) (Or.inl (by decide)) d_TrustDeskModel_readRule_163 (vp_in_iff.mpr (by have := R983.1 15 _ _ rfl; have := R983.1 16 _ _ rfl; have := R983.1 19 _ _ rfl; omega)) (fun M1011 I1012 K1013 R1014 E1015 A1016 V1017 => ?_)
                    have z1018 := (V1017 15)
                    have z1019 := (V1017 16)
                    have z1020 := (V1017 17)
                    have z1021 := (V1017 19)
                    have z1022 := (V1017 22).trans z989
                    have z1023 := (V1017 24).trans z990
                    have z1024 := (A1016 5 (by decide) rfl 44).trans z991
                    have z1025 := (A1016 6 (by decide) rfl 44).trans z992
                    have z1026 := (A1016 7 (by decide) rfl ((880 + ra M0 o0 6 44).toNat)).trans z993
                    have z1027 := (A1016 10 (by decide) rfl ((880 + ra M0 o0 6 44).toNat)).trans z994
                    have z1028 := (A1016 8 (by decide) rfl ((880 + ra M0 o0 6 44).toNat)).trans z995
                    have E1029 : rE M0 M1011 o0 0 2 := E996.same (fun k _ _ => V1017 k) (fun k h1 h2 => A1016 k (by omega) (by rcases (show k = 4 ∨ k = 5 by omega) with rfl | rfl <;> rfl))
                    have h1030 : (880 + ra M0 o0 6 44).toNat = v44.toNatClampNeg := by have := mz_nat9 (i := v44) (by have := R983.1 15 _ _ rfl; have := R983.1 16 _ _ rfl; have := R983.1 19 _ _ rfl; omega); have := R983.1 15 _ _ rfl; have := R983.1 16 _ _ rfl; have := R983.1 19 _ _ rfl; omega
                    have z1031 : ra M1011 o0 11 ((880 + ra M0 o0 6 44).toNat) = v1009.toInt := (E1015 _).trans (if_pos h1030)
                    have K1032 : rK M0 M1011 o0 ((880 + ra M0 o0 6 44).toNat) := K997.st A1016 E1015 (by have := mz_nat9 (i := v44) (by have := R983.1 15 _ _ rfl; have := R983.1 16 _ _ rfl; have := R983.1 19 _ _ rfl; omega); have := R983.1 15 _ _ rfl; have := R983.1 16 _ _ rfl; have := R983.1 19 _ _ rfl; omega)
                    have K1033 : nN M1011 o0 := K998.same (sA_a A1016 (by decide +kernel)) (sF_a V1017)
                    have F1034 : rE M1011 M1011 o0 0 0 := rE.rf E1029.1
                    have : ra M1011 o0 5 44 = v1009.toInt := by omega
                    have Z91035 : pO M1011 o0 pb pn pa s999 := f985.same (fun k _ _ => V1017 k) (V1017 23) (A1016 13 (by decide) rfl)
                    clear z989 z990 z991 z992 z993 z994 z995
                    refine mv_aload_n d_TrustDeskModel_readRule_164 rfl rfl ?_
                    obtain ⟨_, b1042, -⟩ := I1012.1 _ _ t986
                    refine mv_callV (kc' := 0) (ks' := 0) (As := []) (st9 := [.ref o0]) d_TrustDeskModel_readRule_165 lV_TrustDeskModel_302 b1042 rfl (tc_TrustDeskModel_cond_q5_x (d := d) (x9 := x9) (o0 := o0) t986 R1014 E1029.1 (E1029.s yS (by decide)) (Classical.byCases (fun w9 : rv M1011 o0 19 = 0 => by have u91 : rv M977 o0 19 = 0 := (by omega); have := f987.o u91; have := f988.o u91; have u92 : rv M38 o0 19 = 0 := (by omega); have := f54.o u92; have := f55.o u92; omega) (fun w9 : ¬ rv M1011 o0 19 = 0 => by omega)) Z91035 I1012.start) rfl (Nat.le_of_ble_eq_true rfl) (Nat.le_of_ble_eq_true rfl) (Nat.le_of_ble_eq_true rfl) (hst := rfl) (fun b1036r M1037 n1038 b1036 => ?_)
                    obtain ⟨T1039, J1040, rfl, R1043, f1044, f1045, f1046⟩ := b1036
                    have I1041 := I1012.call J1040 (tm_sub (by decide)) (Or.inl rfl)
                    have t1047 := J1040.up t986
                    have := f1044.2.1
                    have f1048 := Im.i f1044.w.2
                    have f1049 := Im.i f1044.w2
                    replace f1045 := Im.i f1045
                    have z1050 := (rv_c I1012 J1040 (I1012.up h_o0) (k := 24) rfl).trans z1023
                    have z1051 := (ra_call I1012 J1040 (I1012.up h_o0) (k := 6) rfl rfl rfl 44).trans z1025
                    have z1052 := (ra_call I1012 J1040 (I1012.up h_o0) (k := 7) rfl rfl rfl ((880 + ra M0 o0 6 44).toNat)).trans z1026
                    have z1053 := (ra_call I1012 J1040 (I1012.up h_o0) (k := 10) rfl rfl rfl ((880 + ra M0 o0 6 44).toNat)).trans z1027
                    have z1054 := (ra_call I1012 J1040 (I1012.up h_o0) (k := 8) rfl rfl rfl ((880 + ra M0 o0 6 44).toNat)).trans z1028
                    have z1055 := (ra_call I1012 J1040 (I1012.up h_o0) (k := 11) rfl rfl rfl ((880 + ra M0 o0 6 44).toNat)).trans z1031
                    have E1056 : rE M0 M1037 o0 1 2 := E1029.trans f1044 (by decide) (yR.2 5 _ _ rfl 44).1 (by decide) (by decide)
                    have K1057 : rK M0 M1037 o0 ((880 + ra M0 o0 6 44).toNat) := K1032.same (sA_c I1012 J1040 (I1012.up h_o0) (by decide +kernel))
                    have K1058 : nN M1037 o0 := K1033.same (sA_c I1012 J1040 (I1012.up h_o0) (by decide +kernel)) (sF_c I1012 J1040 (I1012.up h_o0) (by decide +kernel))
                    have F1059 : rE M1011 M1037 o0 1 0 := F1034.trans f1044 (by decide) (R1014.2 5 _ _ rfl 44).1 (by decide) (by decide)
                    obtain ⟨s1060, e1061⟩ : ∃ s9 : p_S, p_con pb pn pa 4 (p_oc pb pn pa 4) s999 = s9 := ⟨_, rfl⟩
                    rw [e1061] at f1046
                    have := f1046.w
                    clear z1023 z1025 z1026 z1027 z1028 z1031
                    have q1062 := J1040.keep t986 (by decide) (K1013 _ 13 6 _ q1001)
                    have t1063 := J1040.up t1002
                    have q1064 := J1040.keep t986 (by decide) (K1013 _ 13 8 _ q1003)
                    have t1065 := J1040.up t1004
                    have q1066 := J1040.keep t986 (by decide) (K1013 _ 13 11 _ q1005)
                    have t1067 := J1040.up t_a1006
                    have q1068 := J1040.keep t986 (by decide) (K1013 _ 13 5 _ q1007)
                    have t1069 := J1040.up t_a1008
                    refine mv_goto (tgt := 251) d_TrustDeskModel_readRule_168 (by decide) ?_
                    refine mv_aload_n d_TrustDeskModel_readRule_251 rfl rfl ?_
                    refine mv_bipush (v := 59) d_TrustDeskModel_readRule_252 (by decide) ?_
                    obtain ⟨_, b1076, -⟩ := I1041.1 _ _ t1047
                    have : (59 : Int32).toInt = 59 := by decide
                    refine mv_callV (kc' := 0) (ks' := 0) (As := [.int 59]) (st9 := [.int 59, .ref o0]) d_TrustDeskModel_readRule_254 lV_TrustDeskModel_291 b1076 rfl (tc_TrustDeskModel_wantSign_x (d := (d + 22)) (x9 := x9) (o0 := o0) (x1 := 59) t1047 R1043 E1056.1 (E1056.s yS (by decide)) (by decide) f1046 I1041.start) rfl (Nat.le_of_ble_eq_true rfl) (Nat.le_of_ble_eq_true rfl) (Nat.le_of_ble_eq_true rfl) (hst := rfl) (fun b1070r M1071 n1072 b1070 => ?_)
                    obtain ⟨T1073, J1074, rfl, R1077, f1078, f1079⟩ := b1070
                    have I1075 := I1041.call J1074 (tm_sub (by decide)) (Or.inl rfl)
                    have t1080 := J1074.up t1047
                    have := f1078.2.1
                    have f1081 := Im.i f1078.w.2
                    have f1082 := Im.i f1078.w2
                    have z1083 := (rv_c I1041 J1074 (I1041.up h_o0) (k := 22) rfl)
                    have z1084 := (rv_c I1041 J1074 (I1041.up h_o0) (k := 24) rfl).trans z1050
                    have z1085 := (ra_call I1041 J1074 (I1041.up h_o0) (k := 5) rfl rfl rfl 44)
                    have z1086 := (ra_call I1041 J1074 (I1041.up h_o0) (k := 6) rfl rfl rfl 44).trans z1051
                    have z1087 := (ra_call I1041 J1074 (I1041.up h_o0) (k := 7) rfl rfl rfl ((880 + ra M0 o0 6 44).toNat)).trans z1052
                    have z1088 := (ra_call I1041 J1074 (I1041.up h_o0) (k := 10) rfl rfl rfl ((880 + ra M0 o0 6 44).toNat)).trans z1053
                    have z1089 := (ra_call I1041 J1074 (I1041.up h_o0) (k := 8) rfl rfl rfl ((880 + ra M0 o0 6 44).toNat)).trans z1054
                    have z1090 := (ra_call I1041 J1074 (I1041.up h_o0) (k := 11) rfl rfl rfl ((880 + ra M0 o0 6 44).toNat)).trans z1055
                    have E1091 : rE M0 M1071 o0 1 3 := E1056.trans f1078 (by decide) (yR.2 5 _ _ rfl 44).1 (by decide) (by decide)
                    have K1092 : rK M0 M1071 o0 ((880 + ra M0 o0 6 44).toNat) := K1057.same (sA_c I1041 J1074 (I1041.up h_o0) (by decide +kernel))
                    have K1093 : nN M1071 o0 := K1058.same (sA_c I1041 J1074 (I1041.up h_o0) (by decide +kernel)) (sF_c I1041 J1074 (I1041.up h_o0) (by decide +kernel))
                    have F1094 : rE M1011 M1071 o0 1 1 := F1059.trans f1078 (by decide) (R1014.2 5 _ _ rfl 44).1 (by decide) (by decide)
                    rw [show (59 : Int32).toInt = 59 from by decide] at f1079
                    obtain ⟨s1095, e1096⟩ : ∃ s9 : p_S, p_sg pb pn 59 s1060 = s9 := ⟨_, rfl⟩
                    rw [e1096] at f1079
                    have := f1079.w
                    clear z1050 z1051 z1052 z1053 z1054 z1055
                    have q1097 := J1074.keep t1047 (by decide) q1062
                    have t1098 := J1074.up t1063
                    have q1099 := J1074.keep t1047 (by decide) q1064
                    have t1100 := J1074.up t1065
                    have q1101 := J1074.keep t1047 (by decide) q1066
                    have t1102 := J1074.up t1067
                    have q1103 := J1074.keep t1047 (by decide) q1068
                    have t1104 := J1074.up t1069
                    refine mv_aload_n d_TrustDeskModel_readRule_257 rfl rfl ?_
                    obtain ⟨a1106, q1105, t_a1106⟩ := tm_atR I1075 t1080 (k := 12) rfl
                    refine tr_getK q1105 d_TrustDeskModel_readRule_258 f_TrustDeskModel_41_13 ?_
                    refine mv_iload_n d_TrustDeskModel_readRule_261 rfl rfl ?_
                    refine mv_aload_n d_TrustDeskModel_readRule_262 rfl rfl ?_
                    refine tr_getK (k := 5) q1103 d_TrustDeskModel_readRule_263 f_TrustDeskModel_20_13 ?_
                    refine mv_bipush (v := 44) d_TrustDeskModel_readRule_266 (by decide) ?_
                    refine tr_ialdR (o := o0) (k := 5) I1075 q1103 t1104 (by decide) d_TrustDeskModel_readRule_268 (by unfold vp_in; decide) (fun v1107 e1108 => ?_)
                    have := R1077.a (k := 5) rfl (44 : Int32).toNatClampNeg
                    have : v1107.toInt = ra M1071 o0 5 44 := e1108
                    have : v1107.toInt = _ := Eq.trans e1108 z1085
                    refine tr_iastR (k := 12) I1075 R1077 (I1075.up h_o0) q1105 t_a1106 (by decide) (by decide) (fun lo hi h => by cases h; have := R1077.1 15 _ _ rfl; have := R1077.1 16 _ _ rfl; have := R1077.1 19 _ _ rfl; exact ⟨by show (0 : Int) ≤ v1107.toInt; omega, by show v1107.toInt ≤ (400 : Int); omega⟩) (Or.inl (by decide)) d_TrustDeskModel_readRule_269 (vp_in_iff.mpr (by have := R1077.1 15 _ _ rfl; have := R1077.1 16 _ _ rfl; have := R1077.1 19 _ _ rfl; omega)) (fun M1109 I1110 K1111 R1112 E1113 A1114 V1115 => ?_)
                    have z1116 := (V1115 15)
                    have z1117 := (V1115 16)
                    have z1118 := (V1115 17)
                    have z1119 := (V1115 19)
                    have z1120 := (V1115 22).trans z1083
                    have z1121 := (V1115 24).trans z1084
                    have z1122 := (A1114 5 (by decide) rfl 44).trans z1085
                    have z1123 := (A1114 6 (by decide) rfl 44).trans z1086
                    have z1124 := (A1114 7 (by decide) rfl ((880 + ra M0 o0 6 44).toNat)).trans z1087
                    have z1125 := (A1114 10 (by decide) rfl ((880 + ra M0 o0 6 44).toNat)).trans z1088
                    have z1126 := (A1114 8 (by decide) rfl ((880 + ra M0 o0 6 44).toNat)).trans z1089
                    have z1127 := (A1114 11 (by decide) rfl ((880 + ra M0 o0 6 44).toNat)).trans z1090
                    have E1128 : rE M0 M1109 o0 1 3 := E1091.same (fun k _ _ => V1115 k) (fun k h1 h2 => A1114 k (by omega) (by rcases (show k = 4 ∨ k = 5 by omega) with rfl | rfl <;> rfl))
                    have h1129 : (880 + ra M0 o0 6 44).toNat = v44.toNatClampNeg := by have := mz_nat9 (i := v44) (by have := R1077.1 15 _ _ rfl; have := R1077.1 16 _ _ rfl; have := R1077.1 19 _ _ rfl; omega); have := R1077.1 15 _ _ rfl; have := R1077.1 16 _ _ rfl; have := R1077.1 19 _ _ rfl; omega
                    have z1130 : ra M1109 o0 12 ((880 + ra M0 o0 6 44).toNat) = v1107.toInt := (E1113 _).trans (if_pos h1129)
                    have K1131 : rK M0 M1109 o0 ((880 + ra M0 o0 6 44).toNat) := K1092.st A1114 E1113 (by have := mz_nat9 (i := v44) (by have := R1077.1 15 _ _ rfl; have := R1077.1 16 _ _ rfl; have := R1077.1 19 _ _ rfl; omega); have := R1077.1 15 _ _ rfl; have := R1077.1 16 _ _ rfl; have := R1077.1 19 _ _ rfl; omega)
                    have K1132 : nN M1109 o0 := K1093.same (sA_a A1114 (by decide +kernel)) (sF_a V1115)
                    have F1133 : rE M1011 M1109 o0 1 1 := F1094.same (fun k _ _ => V1115 k) (fun k h1 h2 => A1114 k (by omega) (by rcases (show k = 4 ∨ k = 5 by omega) with rfl | rfl <;> rfl))
                    have Z91134 : pO M1109 o0 pb pn pa s1095 := f1079.same (fun k _ _ => V1115 k) (V1115 23) (A1114 13 (by decide) rfl)
                    clear z1083 z1084 z1085 z1086 z1087 z1088 z1089 z1090
                    exact mv_vret d_TrustDeskModel_readRule_270 rfl ⟨_, I1110, rfl, R1112, (rW.of E1128.1 (fun h9 => by exfalso; have u91 : rv M1071 o0 19 = 0 := (by omega); have := f1081.o u91; have := f1082.o u91; have u92 : rv M1037 o0 19 = 0 := (by omega); have := f1048.o u92; have := f1049.o u92; have := f1045.o u92; have u93 : rv M977 o0 19 = 0 := (by omega); have := f987.o u93; have := f988.o u93; have u94 : rv M38 o0 19 = 0 := (by omega); have := f54.o u94; have := f55.o u94; have := R1112.1 15 _ _ rfl; have := R1112.1 16 _ _ rfl; have := R1112.1 19 _ _ rfl; omega) (fun h9 => by exfalso; have u91 : rv M1071 o0 19 = 0 := (by omega); have := f1081.o u91; have := f1082.o u91; have u92 : rv M1037 o0 19 = 0 := (by omega); have := f1048.o u92; have := f1049.o u92; have := f1045.o u92; have u93 : rv M977 o0 19 = 0 := (by omega); have := f987.o u93; have := f988.o u93; have u94 : rv M38 o0 19 = 0 := (by omega); have := f54.o u94; have := f55.o u94; have := R1112.1 15 _ _ rfl; have := R1112.1 16 _ _ rfl; have := R1112.1 19 _ _ rfl; omega)), (rO.of E1128 K1131 (by have := yR.2 6 _ _ rfl 44; omega)), ⟨E1128.2.1, fun w9 => by skip; have := E1128.w2 w9; omega⟩, (fun w9 => by have u91 : rv M1071 o0 19 = 0 := (by omega); have := f1081.o u91; have := f1082.o u91; have u92 : rv M1037 o0 19 = 0 := (by omega); have := f1048.o u92; have := f1049.o u92; have := f1045.o u92; have u93 : rv M977 o0 19 = 0 := (by omega); have := f987.o u93; have := f988.o u93; have u94 : rv M38 o0 19 = 0 := (by omega); have := f54.o u94; have := f55.o u94; omega), (by first | (have := pW0 (Im.o d800) (by omega); have := Z9799.wk; have := pW0 (Im.o d836) (by omega); have := pW0 (Im.o d872) (by omega); have := pW0 (Im.o d908) (by omega); rw [show p_wd pb pn 28 s966 = s966 from p_wd_Z _ (by omega)] at e1000; have z_s999 := Im.i (show s999.1 ≠ 0 from (by rw [← e1000]; omega)); rw [show p_con pb pn pa 4 (p_oc pb pn pa 4) s999 = s999 from p_con_Z _ (Im.o z_s999)] at e1061; have z_s1060 := Im.i (show s1060.1 ≠ 0 from (by rw [← e1061]; exact Im.o z_s999)); rw [show p_sg pb pn 59 s1060 = s1060 from p_sg_Z _ (Im.o z_s1060)] at e1096; have z_s1095 := Im.i (show s1095.1 ≠ 0 from (by rw [← e1096]; exact Im.o z_s1060)); rw [show p_rul pb pn pa pc9 ps = s1095 from (by unfold p_rul; unfold p_bar; (try simp only [e65, e967, e1000, e1061, e1096]); ((repeat' (first | (with_reducible rfl) | split)) <;> (first | ((try simp only [e65, e967, e1000, e1061, e1096]); done) | ((try simp only [e65, e967, e1000, e1061, e1096]); first | exact p_sg_Z _ (Im.o z_s1095) | exact p_sg_Z _ (by omega) | exact (p_sg_Z _ (by omega)).symm | omega) | (exfalso; omega))))]; exact Z91134) | (exfalso; have := R1112.1 15 _ _ rfl; have := R1112.1 16 _ _ rfl; have := R1112.1 19 _ _ rfl; omega)), (fun w9 => by have u91 : rv M1071 o0 19 = 0 := (by omega); have := f1081.o u91; have := f1082.o u91; have u92 : rv M1037 o0 19 = 0 := (by omega); have := f1048.o u92; have := f1049.o u92; have := f1045.o u92; have u93 : rv M977 o0 19 = 0 := (by omega); have := f987.o u93; have := f988.o u93; have u94 : rv M38 o0 19 = 0 := (by omega); have := f54.o u94; have := f55.o u94; omega)⟩
                  · exfalso
                    have := R949.1 15 _ _ rfl; have := R949.1 16 _ _ rfl; have := R949.1 19 _ _ rfl; omega
                · refine mv_iconst (v := 3) d_TrustDeskModel_readRule_112 (by decide) ?_
                  refine mv_goto (tgt := 117) d_TrustDeskModel_readRule_113 (by decide) ?_
                  refine tr_iastR (k := 8) I883 R888 (I883.up h_o0) q912 t893 (by decide) (by decide) (fun lo hi h => by cases h; have e9 : (3 : Int32).toInt = 3 := (by decide); exact ⟨by show ((-1) : Int) ≤ (3 : Int32).toInt; omega, by show (3 : Int32).toInt ≤ (720 : Int); omega⟩) (Or.inl (by decide)) d_TrustDeskModel_readRule_117 (vp_in_iff.mpr (by have := R888.1 15 _ _ rfl; have := R888.1 16 _ _ rfl; have := R888.1 19 _ _ rfl; omega)) (fun M1135 I1136 K1137 R1138 E1139 A1140 V1141 => ?_)
                  have z1142 := (V1141 15).trans z894
                  have z1143 := (V1141 16).trans z895
                  have z1144 := (V1141 17).trans z896
                  have z1145 := (V1141 19).trans z897
                  have z1146 := (V1141 22).trans z898
                  have z1147 := (V1141 24).trans z899
                  have z1148 := (A1140 5 (by decide) rfl 44).trans z900
                  have z1149 := (A1140 6 (by decide) rfl 44).trans z901
                  have z1150 := (A1140 7 (by decide) rfl ((880 + ra M0 o0 6 44).toNat)).trans z902
                  have z1151 := (A1140 10 (by decide) rfl ((880 + ra M0 o0 6 44).toNat)).trans z903
                  have E1152 : rE M0 M1135 o0 0 1 := E904.same (fun k _ _ => V1141 k) (fun k h1 h2 => A1140 k (by omega) (by rcases (show k = 4 ∨ k = 5 by omega) with rfl | rfl <;> rfl))
                  have h1153 : (880 + ra M0 o0 6 44).toNat = v44.toNatClampNeg := by have := mz_nat9 (i := v44) (by have := R888.1 15 _ _ rfl; have := R888.1 16 _ _ rfl; have := R888.1 19 _ _ rfl; omega); have := R888.1 15 _ _ rfl; have := R888.1 16 _ _ rfl; have := R888.1 19 _ _ rfl; omega
                  have z1154 : ra M1135 o0 8 ((880 + ra M0 o0 6 44).toNat) = 3 := (E1139 _).trans (if_pos h1153)
                  have K1155 : rK M0 M1135 o0 ((880 + ra M0 o0 6 44).toNat) := K905.st A1140 E1139 (by have := mz_nat9 (i := v44) (by have := R888.1 15 _ _ rfl; have := R888.1 16 _ _ rfl; have := R888.1 19 _ _ rfl; omega); have := R888.1 15 _ _ rfl; have := R888.1 16 _ _ rfl; have := R888.1 19 _ _ rfl; omega)
                  have K1156 : nN M1135 o0 := K906.same (sA_a A1140 (by decide +kernel)) (sF_a V1141)
                  have Z91157 : pO M1135 o0 pb pn pa s64 := Z9907.same (fun k _ _ => V1141 k) (V1141 23) (A1140 13 (by decide) rfl)
                  clear z894 z895 z896 z898 z899 z900 z901 z902 z903
                  refine mv_aload_n d_TrustDeskModel_readRule_118 rfl rfl ?_
                  refine tr_getK (k := 8) (K1137 _ 13 8 _ q912) d_TrustDeskModel_readRule_119 f_TrustDeskModel_29_13 ?_
                  refine mv_iload_n d_TrustDeskModel_readRule_122 rfl rfl ?_
                  refine tr_ialdR (o := o0) (k := 8) I1136 (K1137 _ 13 8 _ q912) t893 (by decide) d_TrustDeskModel_readRule_123 (vp_in_iff.mpr (by have := R1138.1 15 _ _ rfl; have := R1138.1 16 _ _ rfl; have := R1138.1 19 _ _ rfl; omega)) (fun v1158 e1159 => ?_)
                  have := R1138.a (k := 8) rfl (v44 : Int32).toNatClampNeg
                  have h1160 : (880 + ra M0 o0 6 44).toNat = v44.toNatClampNeg := by have := mz_nat9 (i := v44) (by have := R1138.1 15 _ _ rfl; have := R1138.1 16 _ _ rfl; have := R1138.1 19 _ _ rfl; omega); have := R1138.1 15 _ _ rfl; have := R1138.1 16 _ _ rfl; have := R1138.1 19 _ _ rfl; omega
                  have z1161 : v1158.toInt = ra M1135 o0 8 ((880 + ra M0 o0 6 44).toNat) := by rw [e1159, h1160]
                  have : v1158.toInt = _ := Eq.trans z1161 z1154
                  refine mv_iconst (v := (-1)) d_TrustDeskModel_readRule_124 (by decide) ?_
                  have := mz_hi v1158
                  refine mv_icmp_neZ (tgt := 133) (a := v1158.toInt) (b := (-1)) d_TrustDeskModel_readRule_125 (by decide) rfl (by decide) (fun b1162 => ?_) (fun b1162 => absurd b1162 (by omega))
                  refine mv_aload_n d_TrustDeskModel_readRule_133 rfl rfl ?_
                  obtain ⟨_, b1163, -⟩ := I1136.1 _ _ t892
                  refine mv_callV (kc1 := 0) (ks1 := 0) (kc' := 0) (ks' := 0) (As := []) (st9 := [.ref o0]) d_TrustDeskModel_readRule_134 lV_TrustDeskModel_230 b1163 rfl (mj_enter (by decide) (Nat.le_of_ble_eq_true rfl) ?_) rfl (Nat.le_of_ble_eq_true rfl) (Nat.le_of_ble_eq_true rfl) (Nat.le_of_ble_eq_true rfl) (hst := rfl) (fun _ _ _ h => h)
                  refine mv_aload_n d_TrustDeskModel_isWell_0 rfl rfl ?_
                  refine tr_getK (k := 19) (K1137 _ 13 19 _ q911) d_TrustDeskModel_isWell_1 f_TrustDeskModel_224_13 ?_
                  have := mz_hi v35
                  refine mv_if_neZ (tgt := 11) (a := v35.toInt) d_TrustDeskModel_isWell_4 (by decide) rfl (fun b1164 => absurd b1164 (by omega)) (fun b1164 => ?_)
                  refine mv_iconst (v := 1) d_TrustDeskModel_isWell_7 (by decide) ?_
                  refine mv_goto (tgt := 12) d_TrustDeskModel_isWell_8 (by decide) ?_
                  refine mv_iret d_TrustDeskModel_isWell_12 rfl (by decide) ?_
                  refine mv_if_eq_f (tgt := 144) d_TrustDeskModel_readRule_137 (by decide) (by decide) ?_
                  refine mv_aload_n d_TrustDeskModel_readRule_140 rfl rfl ?_
                  obtain ⟨_, b1171, -⟩ := I1136.1 _ _ t892
                  refine mv_callV (kc' := 0) (ks' := 0) (As := []) (st9 := [.ref o0]) d_TrustDeskModel_readRule_141 lV_TrustDeskModel_237 b1171 rfl (tc_TrustDeskModel_next_x (d := (d + 23)) (x9 := x9) (o0 := o0) t892 R1138 Z91157.p I1136.start) rfl (Nat.le_of_ble_eq_true rfl) (Nat.le_of_ble_eq_true rfl) (Nat.le_of_ble_eq_true rfl) (hst := rfl) (fun b1165r M1166 n1167 b1165 => ?_)
                  obtain ⟨T1168, J1169, rfl, R1172, f1173, f1174, f1175⟩ := b1165
                  have I1170 := I1136.call J1169 (tm_sub (by decide)) (Or.inl rfl)
                  have t1176 := J1169.up t892
                  have z1177 := (rv_c I1136 J1169 (I1136.up h_o0) (k := 19) rfl).trans z1145
                  have z1178 := (rv_c I1136 J1169 (I1136.up h_o0) (k := 22) rfl).trans z1146
                  have z1179 := (rv_c I1136 J1169 (I1136.up h_o0) (k := 24) rfl).trans z1147
                  have z1180 := (ra_call I1136 J1169 (I1136.up h_o0) (k := 5) rfl rfl rfl 44).trans z1148
                  have z1181 := (ra_call I1136 J1169 (I1136.up h_o0) (k := 6) rfl rfl rfl 44).trans z1149
                  have z1182 := (ra_call I1136 J1169 (I1136.up h_o0) (k := 7) rfl rfl rfl ((880 + ra M0 o0 6 44).toNat)).trans z1150
                  have z1183 := (ra_call I1136 J1169 (I1136.up h_o0) (k := 10) rfl rfl rfl ((880 + ra M0 o0 6 44).toNat)).trans z1151
                  have z1184 := (ra_call I1136 J1169 (I1136.up h_o0) (k := 8) rfl rfl rfl ((880 + ra M0 o0 6 44).toNat)).trans z1154
                  have h1186 : rv M1135 o0 16 + 1 ≤ rv M1135 o0 15 := (by have := f889.o (by omega); have := E1152.1.2.1 (by omega); omega)
                  have E1185 : rE M0 M1166 o0 0 2 := E1152.next f1173 f1174 (rv_c I1136 J1169 (I1136.up h_o0) (k := 19) rfl) (rE_ha I1136 J1169 (I1136.up h_o0) (by decide)) (e := 1) h1186 (by decide)
                  have K1187 : rK M0 M1166 o0 ((880 + ra M0 o0 6 44).toNat) := K1155.same (sA_c I1136 J1169 (I1136.up h_o0) (by decide +kernel))
                  have K1188 : nN M1166 o0 := K1156.same (sA_c I1136 J1169 (I1136.up h_o0) (by decide +kernel)) (sF_c I1136 J1169 (I1136.up h_o0) (by decide +kernel))
                  obtain ⟨s1189, e1190⟩ : ∃ s9 : p_S, p_nx s64 = s9 := ⟨_, rfl⟩
                  rw [e1190] at f1175
                  have := f1175.w
                  clear z1146 z1147 z1148 z1149 z1150 z1151 z1154
                  have q1191 := J1169.keep t892 (by decide) (K1137 _ 13 6 _ q909)
                  have t1192 := J1169.up t910
                  have q1193 := J1169.keep t892 (by decide) (K1137 _ 13 19 _ q911)
                  have q1194 := J1169.keep t892 (by decide) (K1137 _ 13 8 _ q912)
                  have t1195 := J1169.up t893
                  refine mv_aload_n d_TrustDeskModel_readRule_144 rfl rfl ?_
                  refine mv_ldcSw (id := 25) (tx := "if") d_TrustDeskModel_readRule_145 (List.mem_of_getElem? (i := 15) rfl) ?_
                  obtain ⟨_, b1202, -⟩ := I1170.1 _ _ t1176
                  refine mv_callV (kc' := 0) (ks' := 0) (As := [.ref 25]) (st9 := [.ref 25, .ref o0]) d_TrustDeskModel_readRule_148 lV_TrustDeskModel_329 b1202 rfl (tc_TrustDeskModel_wantWord_s1_25_x (d := (d + 19)) (x9 := x9) (o0 := o0) t1176 R1172 E1185.1 (E1185.s yS (by decide)) f1175 I1170.start) rfl (Nat.le_of_ble_eq_true rfl) (Nat.le_of_ble_eq_true rfl) (Nat.le_of_ble_eq_true rfl) (hst := rfl) (fun b1196r M1197 n1198 b1196 => ?_)
                  obtain ⟨T1199, J1200, rfl, R1203, f1204, f1205⟩ := b1196
                  have I1201 := I1170.call J1200 (tm_sub (by decide)) (Or.inl rfl)
                  have t1206 := J1200.up t1176
                  have := f1204.2.1
                  have f1207 := Im.i f1204.w.2
                  have f1208 := Im.i f1204.w2
                  have z1209 := (rv_c I1170 J1200 (I1170.up h_o0) (k := 22) rfl).trans z1178
                  have z1210 := (rv_c I1170 J1200 (I1170.up h_o0) (k := 24) rfl).trans z1179
                  have z1211 := (ra_call I1170 J1200 (I1170.up h_o0) (k := 5) rfl rfl rfl 44).trans z1180
                  have z1212 := (ra_call I1170 J1200 (I1170.up h_o0) (k := 6) rfl rfl rfl 44).trans z1181
                  have z1213 := (ra_call I1170 J1200 (I1170.up h_o0) (k := 7) rfl rfl rfl ((880 + ra M0 o0 6 44).toNat)).trans z1182
                  have z1214 := (ra_call I1170 J1200 (I1170.up h_o0) (k := 10) rfl rfl rfl ((880 + ra M0 o0 6 44).toNat)).trans z1183
                  have z1215 := (ra_call I1170 J1200 (I1170.up h_o0) (k := 8) rfl rfl rfl ((880 + ra M0 o0 6 44).toNat)).trans z1184
                  have E1216 : rE M0 M1197 o0 0 3 := E1185.trans f1204 (by decide) (yR.2 5 _ _ rfl 44).1 (by decide) (by decide)
                  have K1217 : rK M0 M1197 o0 ((880 + ra M0 o0 6 44).toNat) := K1187.same (sA_c I1170 J1200 (I1170.up h_o0) (by decide +kernel))
                  have K1218 : nN M1197 o0 := K1188.same (sA_c I1170 J1200 (I1170.up h_o0) (by decide +kernel)) (sF_c I1170 J1200 (I1170.up h_o0) (by decide +kernel))
                  obtain ⟨s1219, e1220⟩ : ∃ s9 : p_S, p_wd pb pn 28 s1189 = s9 := ⟨_, rfl⟩
                  rw [e1220] at f1205
                  have := f1205.w
                  clear z1178 z1179 z1180 z1181 z1182 z1183 z1184
                  have q1221 := J1200.keep t1176 (by decide) q1191
                  have t1222 := J1200.up t1192
                  have q1223 := J1200.keep t1176 (by decide) q1194
                  have t1224 := J1200.up t1195
                  refine mv_aload_n d_TrustDeskModel_readRule_151 rfl rfl ?_
                  obtain ⟨a1226, q1225, t_a1226⟩ := tm_atR I1201 t1206 (k := 11) rfl
                  refine tr_getK q1225 d_TrustDeskModel_readRule_152 f_TrustDeskModel_38_13 ?_
                  refine mv_iload_n d_TrustDeskModel_readRule_155 rfl rfl ?_
                  refine mv_aload_n d_TrustDeskModel_readRule_156 rfl rfl ?_
                  obtain ⟨a1228, q1227, t_a1228⟩ := tm_atR I1201 t1206 (k := 5) rfl
                  refine tr_getK q1227 d_TrustDeskModel_readRule_157 f_TrustDeskModel_20_13 ?_
                  refine mv_bipush (v := 44) d_TrustDeskModel_readRule_160 (by decide) ?_
                  refine tr_ialdR (o := o0) (k := 5) I1201 q1227 t_a1228 (by decide) d_TrustDeskModel_readRule_162 (by unfold vp_in; decide) (fun v1229 e1230 => ?_)
                  have := R1203.a (k := 5) rfl (44 : Int32).toNatClampNeg
                  have : v1229.toInt = ra M1197 o0 5 44 := e1230
                  have : v1229.toInt = _ := Eq.trans e1230 z1211
                  refine tr_iastR (k := 11) I1201 R1203 (I1201.up h_o0) q1225 t_a1226 (by decide) (by decide) (fun lo hi h => by cases h; have := R1203.1 15 _ _ rfl; have := R1203.1 16 _ _ rfl; have := R1203.1 19 _ _ rfl; exact ⟨by show (0 : Int) ≤ v1229.toInt; omega, by show v1229.toInt ≤ (400 : Int); omega⟩) (Or.inl (by decide)) d_TrustDeskModel_readRule_163 (vp_in_iff.mpr (by have := R1203.1 15 _ _ rfl; have := R1203.1 16 _ _ rfl; have := R1203.1 19 _ _ rfl; omega)) (fun M1231 I1232 K1233 R1234 E1235 A1236 V1237 => ?_)
                  have z1238 := (V1237 15)
                  have z1239 := (V1237 16)
                  have z1240 := (V1237 17)
                  have z1241 := (V1237 19)
                  have z1242 := (V1237 22).trans z1209
                  have z1243 := (V1237 24).trans z1210
                  have z1244 := (A1236 5 (by decide) rfl 44).trans z1211
                  have z1245 := (A1236 6 (by decide) rfl 44).trans z1212
                  have z1246 := (A1236 7 (by decide) rfl ((880 + ra M0 o0 6 44).toNat)).trans z1213
                  have z1247 := (A1236 10 (by decide) rfl ((880 + ra M0 o0 6 44).toNat)).trans z1214
                  have z1248 := (A1236 8 (by decide) rfl ((880 + ra M0 o0 6 44).toNat)).trans z1215
                  have E1249 : rE M0 M1231 o0 0 3 := E1216.same (fun k _ _ => V1237 k) (fun k h1 h2 => A1236 k (by omega) (by rcases (show k = 4 ∨ k = 5 by omega) with rfl | rfl <;> rfl))
                  have h1250 : (880 + ra M0 o0 6 44).toNat = v44.toNatClampNeg := by have := mz_nat9 (i := v44) (by have := R1203.1 15 _ _ rfl; have := R1203.1 16 _ _ rfl; have := R1203.1 19 _ _ rfl; omega); have := R1203.1 15 _ _ rfl; have := R1203.1 16 _ _ rfl; have := R1203.1 19 _ _ rfl; omega
                  have z1251 : ra M1231 o0 11 ((880 + ra M0 o0 6 44).toNat) = v1229.toInt := (E1235 _).trans (if_pos h1250)
                  have K1252 : rK M0 M1231 o0 ((880 + ra M0 o0 6 44).toNat) := K1217.st A1236 E1235 (by have := mz_nat9 (i := v44) (by have := R1203.1 15 _ _ rfl; have := R1203.1 16 _ _ rfl; have := R1203.1 19 _ _ rfl; omega); have := R1203.1 15 _ _ rfl; have := R1203.1 16 _ _ rfl; have := R1203.1 19 _ _ rfl; omega)
                  have K1253 : nN M1231 o0 := K1218.same (sA_a A1236 (by decide +kernel)) (sF_a V1237)
                  have F1254 : rE M1231 M1231 o0 0 0 := rE.rf E1249.1
                  have : ra M1231 o0 5 44 = v1229.toInt := by omega
                  have Z91255 : pO M1231 o0 pb pn pa s1219 := f1205.same (fun k _ _ => V1237 k) (V1237 23) (A1236 13 (by decide) rfl)
                  clear z1209 z1210 z1211 z1212 z1213 z1214 z1215
                  refine mv_aload_n d_TrustDeskModel_readRule_164 rfl rfl ?_
                  obtain ⟨_, b1262, -⟩ := I1232.1 _ _ t1206
                  refine mv_callV (kc' := 0) (ks' := 0) (As := []) (st9 := [.ref o0]) d_TrustDeskModel_readRule_165 lV_TrustDeskModel_302 b1262 rfl (tc_TrustDeskModel_cond_q5_x (d := d) (x9 := x9) (o0 := o0) t1206 R1234 E1249.1 (E1249.s yS (by decide)) (Classical.byCases (fun w9 : rv M1231 o0 19 = 0 => by have u91 : rv M1197 o0 19 = 0 := (by omega); have := f1207.o u91; have := f1208.o u91; have u92 : rv M38 o0 19 = 0 := (by omega); have := f54.o u92; have := f55.o u92; omega) (fun w9 : ¬ rv M1231 o0 19 = 0 => by omega)) Z91255 I1232.start) rfl (Nat.le_of_ble_eq_true rfl) (Nat.le_of_ble_eq_true rfl) (Nat.le_of_ble_eq_true rfl) (hst := rfl) (fun b1256r M1257 n1258 b1256 => ?_)
                  obtain ⟨T1259, J1260, rfl, R1263, f1264, f1265, f1266⟩ := b1256
                  have I1261 := I1232.call J1260 (tm_sub (by decide)) (Or.inl rfl)
                  have t1267 := J1260.up t1206
                  have := f1264.2.1
                  have f1268 := Im.i f1264.w.2
                  have f1269 := Im.i f1264.w2
                  replace f1265 := Im.i f1265
                  have z1270 := (rv_c I1232 J1260 (I1232.up h_o0) (k := 24) rfl).trans z1243
                  have z1271 := (ra_call I1232 J1260 (I1232.up h_o0) (k := 6) rfl rfl rfl 44).trans z1245
                  have z1272 := (ra_call I1232 J1260 (I1232.up h_o0) (k := 7) rfl rfl rfl ((880 + ra M0 o0 6 44).toNat)).trans z1246
                  have z1273 := (ra_call I1232 J1260 (I1232.up h_o0) (k := 10) rfl rfl rfl ((880 + ra M0 o0 6 44).toNat)).trans z1247
                  have z1274 := (ra_call I1232 J1260 (I1232.up h_o0) (k := 8) rfl rfl rfl ((880 + ra M0 o0 6 44).toNat)).trans z1248
                  have z1275 := (ra_call I1232 J1260 (I1232.up h_o0) (k := 11) rfl rfl rfl ((880 + ra M0 o0 6 44).toNat)).trans z1251
                  have E1276 : rE M0 M1257 o0 1 3 := E1249.trans f1264 (by decide) (yR.2 5 _ _ rfl 44).1 (by decide) (by decide)
                  have K1277 : rK M0 M1257 o0 ((880 + ra M0 o0 6 44).toNat) := K1252.same (sA_c I1232 J1260 (I1232.up h_o0) (by decide +kernel))
                  have K1278 : nN M1257 o0 := K1253.same (sA_c I1232 J1260 (I1232.up h_o0) (by decide +kernel)) (sF_c I1232 J1260 (I1232.up h_o0) (by decide +kernel))
                  have F1279 : rE M1231 M1257 o0 1 0 := F1254.trans f1264 (by decide) (R1234.2 5 _ _ rfl 44).1 (by decide) (by decide)
                  obtain ⟨s1280, e1281⟩ : ∃ s9 : p_S, p_con pb pn pa 4 (p_oc pb pn pa 4) s1219 = s9 := ⟨_, rfl⟩
                  rw [e1281] at f1266
                  have := f1266.w
                  clear z1243 z1245 z1246 z1247 z1248 z1251
                  have q1282 := J1260.keep t1206 (by decide) (K1233 _ 13 6 _ q1221)
                  have t1283 := J1260.up t1222
                  have q1284 := J1260.keep t1206 (by decide) (K1233 _ 13 8 _ q1223)
                  have t1285 := J1260.up t1224
                  have q1286 := J1260.keep t1206 (by decide) (K1233 _ 13 11 _ q1225)
                  have t1287 := J1260.up t_a1226
                  have q1288 := J1260.keep t1206 (by decide) (K1233 _ 13 5 _ q1227)
                  have t1289 := J1260.up t_a1228
                  refine mv_goto (tgt := 251) d_TrustDeskModel_readRule_168 (by decide) ?_
                  refine mv_aload_n d_TrustDeskModel_readRule_251 rfl rfl ?_
                  refine mv_bipush (v := 59) d_TrustDeskModel_readRule_252 (by decide) ?_
                  obtain ⟨_, b1296, -⟩ := I1261.1 _ _ t1267
                  have : (59 : Int32).toInt = 59 := by decide
                  refine mv_callV (kc' := 0) (ks' := 0) (As := [.int 59]) (st9 := [.int 59, .ref o0]) d_TrustDeskModel_readRule_254 lV_TrustDeskModel_291 b1296 rfl (tc_TrustDeskModel_wantSign_x (d := (d + 22)) (x9 := x9) (o0 := o0) (x1 := 59) t1267 R1263 E1276.1 (E1276.s yS (by decide)) (by decide) f1266 I1261.start) rfl (Nat.le_of_ble_eq_true rfl) (Nat.le_of_ble_eq_true rfl) (Nat.le_of_ble_eq_true rfl) (hst := rfl) (fun b1290r M1291 n1292 b1290 => ?_)
                  obtain ⟨T1293, J1294, rfl, R1297, f1298, f1299⟩ := b1290
                  have I1295 := I1261.call J1294 (tm_sub (by decide)) (Or.inl rfl)
                  have t1300 := J1294.up t1267
                  have := f1298.2.1
                  have f1301 := Im.i f1298.w.2
                  have f1302 := Im.i f1298.w2
                  have z1303 := (rv_c I1261 J1294 (I1261.up h_o0) (k := 22) rfl)
                  have z1304 := (rv_c I1261 J1294 (I1261.up h_o0) (k := 24) rfl).trans z1270
                  have z1305 := (ra_call I1261 J1294 (I1261.up h_o0) (k := 5) rfl rfl rfl 44)
                  have z1306 := (ra_call I1261 J1294 (I1261.up h_o0) (k := 6) rfl rfl rfl 44).trans z1271
                  have z1307 := (ra_call I1261 J1294 (I1261.up h_o0) (k := 7) rfl rfl rfl ((880 + ra M0 o0 6 44).toNat)).trans z1272
                  have z1308 := (ra_call I1261 J1294 (I1261.up h_o0) (k := 10) rfl rfl rfl ((880 + ra M0 o0 6 44).toNat)).trans z1273
                  have z1309 := (ra_call I1261 J1294 (I1261.up h_o0) (k := 8) rfl rfl rfl ((880 + ra M0 o0 6 44).toNat)).trans z1274
                  have z1310 := (ra_call I1261 J1294 (I1261.up h_o0) (k := 11) rfl rfl rfl ((880 + ra M0 o0 6 44).toNat)).trans z1275
                  have E1311 : rE M0 M1291 o0 1 4 := E1276.trans f1298 (by decide) (yR.2 5 _ _ rfl 44).1 (by decide) (by decide)
                  have K1312 : rK M0 M1291 o0 ((880 + ra M0 o0 6 44).toNat) := K1277.same (sA_c I1261 J1294 (I1261.up h_o0) (by decide +kernel))
                  have K1313 : nN M1291 o0 := K1278.same (sA_c I1261 J1294 (I1261.up h_o0) (by decide +kernel)) (sF_c I1261 J1294 (I1261.up h_o0) (by decide +kernel))
                  have F1314 : rE M1231 M1291 o0 1 1 := F1279.trans f1298 (by decide) (R1234.2 5 _ _ rfl 44).1 (by decide) (by decide)
                  rw [show (59 : Int32).toInt = 59 from by decide] at f1299
                  obtain ⟨s1315, e1316⟩ : ∃ s9 : p_S, p_sg pb pn 59 s1280 = s9 := ⟨_, rfl⟩
                  rw [e1316] at f1299
                  have := f1299.w
                  clear z1270 z1271 z1272 z1273 z1274 z1275
                  have q1317 := J1294.keep t1267 (by decide) q1282
                  have t1318 := J1294.up t1283
                  have q1319 := J1294.keep t1267 (by decide) q1284
                  have t1320 := J1294.up t1285
                  have q1321 := J1294.keep t1267 (by decide) q1286
                  have t1322 := J1294.up t1287
                  have q1323 := J1294.keep t1267 (by decide) q1288
                  have t1324 := J1294.up t1289
                  refine mv_aload_n d_TrustDeskModel_readRule_257 rfl rfl ?_
                  obtain ⟨a1326, q1325, t_a1326⟩ := tm_atR I1295 t1300 (k := 12) rfl
                  refine tr_getK q1325 d_TrustDeskModel_readRule_258 f_TrustDeskModel_41_13 ?_
                  refine mv_iload_n d_TrustDeskModel_readRule_261 rfl rfl ?_
                  refine mv_aload_n d_TrustDeskModel_readRule_262 rfl rfl ?_
                  refine tr_getK (k := 5) q1323 d_TrustDeskModel_readRule_263 f_TrustDeskModel_20_13 ?_
                  refine mv_bipush (v := 44) d_TrustDeskModel_readRule_266 (by decide) ?_
                  refine tr_ialdR (o := o0) (k := 5) I1295 q1323 t1324 (by decide) d_TrustDeskModel_readRule_268 (by unfold vp_in; decide) (fun v1327 e1328 => ?_)
                  have := R1297.a (k := 5) rfl (44 : Int32).toNatClampNeg
                  have : v1327.toInt = ra M1291 o0 5 44 := e1328
                  have : v1327.toInt = _ := Eq.trans e1328 z1305
                  refine tr_iastR (k := 12) I1295 R1297 (I1295.up h_o0) q1325 t_a1326 (by decide) (by decide) (fun lo hi h => by cases h; have := R1297.1 15 _ _ rfl; have := R1297.1 16 _ _ rfl; have := R1297.1 19 _ _ rfl; exact ⟨by show (0 : Int) ≤ v1327.toInt; omega, by show v1327.toInt ≤ (400 : Int); omega⟩) (Or.inl (by decide)) d_TrustDeskModel_readRule_269 (vp_in_iff.mpr (by have := R1297.1 15 _ _ rfl; have := R1297.1 16 _ _ rfl; have := R1297.1 19 _ _ rfl; omega)) (fun M1329 I1330 K1331 R1332 E1333 A1334 V1335 => ?_)
                  have z1336 := (V1335 15)
                  have z1337 := (V1335 16)
                  have z1338 := (V1335 17)
                  have z1339 := (V1335 19)
                  have z1340 := (V1335 22).trans z1303
                  have z1341 := (V1335 24).trans z1304
                  have z1342 := (A1334 5 (by decide) rfl 44).trans z1305
                  have z1343 := (A1334 6 (by decide) rfl 44).trans z1306
                  have z1344 := (A1334 7 (by decide) rfl ((880 + ra M0 o0 6 44).toNat)).trans z1307
                  have z1345 := (A1334 10 (by decide) rfl ((880 + ra M0 o0 6 44).toNat)).trans z1308
                  have z1346 := (A1334 8 (by decide) rfl ((880 + ra M0 o0 6 44).toNat)).trans z1309
                  have z1347 := (A1334 11 (by decide) rfl ((880 + ra M0 o0 6 44).toNat)).trans z1310
                  have E1348 : rE M0 M1329 o0 1 4 := E1311.same (fun k _ _ => V1335 k) (fun k h1 h2 => A1334 k (by omega) (by rcases (show k = 4 ∨ k = 5 by omega) with rfl | rfl <;> rfl))
                  have h1349 : (880 + ra M0 o0 6 44).toNat = v44.toNatClampNeg := by have := mz_nat9 (i := v44) (by have := R1297.1 15 _ _ rfl; have := R1297.1 16 _ _ rfl; have := R1297.1 19 _ _ rfl; omega); have := R1297.1 15 _ _ rfl; have := R1297.1 16 _ _ rfl; have := R1297.1 19 _ _ rfl; omega
                  have z1350 : ra M1329 o0 12 ((880 + ra M0 o0 6 44).toNat) = v1327.toInt := (E1333 _).trans (if_pos h1349)
                  have K1351 : rK M0 M1329 o0 ((880 + ra M0 o0 6 44).toNat) := K1312.st A1334 E1333 (by have := mz_nat9 (i := v44) (by have := R1297.1 15 _ _ rfl; have := R1297.1 16 _ _ rfl; have := R1297.1 19 _ _ rfl; omega); have := R1297.1 15 _ _ rfl; have := R1297.1 16 _ _ rfl; have := R1297.1 19 _ _ rfl; omega)
                  have K1352 : nN M1329 o0 := K1313.same (sA_a A1334 (by decide +kernel)) (sF_a V1335)
                  have F1353 : rE M1231 M1329 o0 1 1 := F1314.same (fun k _ _ => V1335 k) (fun k h1 h2 => A1334 k (by omega) (by rcases (show k = 4 ∨ k = 5 by omega) with rfl | rfl <;> rfl))
                  have Z91354 : pO M1329 o0 pb pn pa s1315 := f1299.same (fun k _ _ => V1335 k) (V1335 23) (A1334 13 (by decide) rfl)
                  clear z1303 z1304 z1305 z1306 z1307 z1308 z1309 z1310
                  exact mv_vret d_TrustDeskModel_readRule_270 rfl ⟨_, I1330, rfl, R1332, (rW.of E1348.1 (E1348.s yS (by decide)) (fun w9 => by have u91 : rv M1291 o0 19 = 0 := (by omega); have := f1301.o u91; have := f1302.o u91; have u92 : rv M1257 o0 19 = 0 := (by omega); have := f1268.o u92; have := f1269.o u92; have := f1265.o u92; have u93 : rv M1197 o0 19 = 0 := (by omega); have := f1207.o u93; have := f1208.o u93; have u94 : rv M38 o0 19 = 0 := (by omega); have := f54.o u94; have := f55.o u94; exact rG.step yG yR E1348 w9 K1351 (by have := yR.2 6 _ _ rfl 44; omega) (by have := R1332.1 15 _ _ rfl; have := R1332.1 16 _ _ rfl; have := R1332.1 19 _ _ rfl; omega) (by have := R1332.1 15 _ _ rfl; have := R1332.1 16 _ _ rfl; have := R1332.1 19 _ _ rfl; omega) (fun _ => rowN.of E1249 F1353 w9 (by decide) (by decide) (yR.2 5 _ _ rfl 44).1 (by have := R1332.1 15 _ _ rfl; have := R1332.1 16 _ _ rfl; have := R1332.1 19 _ _ rfl; omega) (by have := R1332.1 15 _ _ rfl; have := R1332.1 16 _ _ rfl; have := R1332.1 19 _ _ rfl; omega) (by have := R1332.1 15 _ _ rfl; have := R1332.1 16 _ _ rfl; have := R1332.1 19 _ _ rfl; omega)) (fun h9 => (by have := R1332.1 15 _ _ rfl; have := R1332.1 16 _ _ rfl; have := R1332.1 19 _ _ rfl; omega)) (by have := R1332.1 15 _ _ rfl; have := R1332.1 16 _ _ rfl; have := R1332.1 19 _ _ rfl; omega) K1352)), (rO.of E1348 K1351 (by have := yR.2 6 _ _ rfl 44; omega)), ⟨E1348.2.1, fun w9 => by skip; have := E1348.w2 w9; omega⟩, (fun w9 => by have u91 : rv M1291 o0 19 = 0 := (by omega); have := f1301.o u91; have := f1302.o u91; have u92 : rv M1257 o0 19 = 0 := (by omega); have := f1268.o u92; have := f1269.o u92; have := f1265.o u92; have u93 : rv M1197 o0 19 = 0 := (by omega); have := f1207.o u93; have := f1208.o u93; have u94 : rv M38 o0 19 = 0 := (by omega); have := f54.o u94; have := f55.o u94; omega), (by first | (have := pW0 (Im.o d800) (by omega); have := Z9799.wk; have := pW0 (Im.o d836) (by omega); have := pW0 (Im.o d872) (by omega); have := pW1 (Im.o d908) (by omega); rw [show p_rul pb pn pa pc9 ps = s1315 from (by unfold p_rul; unfold p_bar; (try simp only [e65, e1190, e1220, e1281, e1316]); ((repeat' (first | (with_reducible rfl) | split)) <;> (first | ((try simp only [e65, e1190, e1220, e1281, e1316]); done) | ((try simp only [e65, e1190, e1220, e1281, e1316]); first | exact p_sg_Z _ (by omega) | exact (p_sg_Z _ (by omega)).symm | omega) | (exfalso; omega))))]; exact Z91354) | (exfalso; have := R1332.1 15 _ _ rfl; have := R1332.1 16 _ _ rfl; have := R1332.1 19 _ _ rfl; omega)), (fun w9 => by have u91 : rv M1291 o0 19 = 0 := (by omega); have := f1301.o u91; have := f1302.o u91; have u92 : rv M1257 o0 19 = 0 := (by omega); have := f1268.o u92; have := f1269.o u92; have := f1265.o u92; have u93 : rv M1197 o0 19 = 0 := (by omega); have := f1207.o u93; have := f1208.o u93; have u94 : rv M38 o0 19 = 0 := (by omega); have := f54.o u94; have := f55.o u94; omega)⟩
              · refine mv_iconst (v := 2) d_TrustDeskModel_readRule_98 (by decide) ?_
                refine mv_goto (tgt := 117) d_TrustDeskModel_readRule_99 (by decide) ?_
                refine tr_iastR (k := 8) I847 R852 (I847.up h_o0) q876 t857 (by decide) (by decide) (fun lo hi h => by cases h; have e9 : (2 : Int32).toInt = 2 := (by decide); exact ⟨by show ((-1) : Int) ≤ (2 : Int32).toInt; omega, by show (2 : Int32).toInt ≤ (720 : Int); omega⟩) (Or.inl (by decide)) d_TrustDeskModel_readRule_117 (vp_in_iff.mpr (by have := R852.1 15 _ _ rfl; have := R852.1 16 _ _ rfl; have := R852.1 19 _ _ rfl; omega)) (fun M1355 I1356 K1357 R1358 E1359 A1360 V1361 => ?_)
                have z1362 := (V1361 15).trans z858
                have z1363 := (V1361 16).trans z859
                have z1364 := (V1361 17).trans z860
                have z1365 := (V1361 19).trans z861
                have z1366 := (V1361 22).trans z862
                have z1367 := (V1361 24).trans z863
                have z1368 := (A1360 5 (by decide) rfl 44).trans z864
                have z1369 := (A1360 6 (by decide) rfl 44).trans z865
                have z1370 := (A1360 7 (by decide) rfl ((880 + ra M0 o0 6 44).toNat)).trans z866
                have z1371 := (A1360 10 (by decide) rfl ((880 + ra M0 o0 6 44).toNat)).trans z867
                have E1372 : rE M0 M1355 o0 0 1 := E868.same (fun k _ _ => V1361 k) (fun k h1 h2 => A1360 k (by omega) (by rcases (show k = 4 ∨ k = 5 by omega) with rfl | rfl <;> rfl))
                have h1373 : (880 + ra M0 o0 6 44).toNat = v44.toNatClampNeg := by have := mz_nat9 (i := v44) (by have := R852.1 15 _ _ rfl; have := R852.1 16 _ _ rfl; have := R852.1 19 _ _ rfl; omega); have := R852.1 15 _ _ rfl; have := R852.1 16 _ _ rfl; have := R852.1 19 _ _ rfl; omega
                have z1374 : ra M1355 o0 8 ((880 + ra M0 o0 6 44).toNat) = 2 := (E1359 _).trans (if_pos h1373)
                have K1375 : rK M0 M1355 o0 ((880 + ra M0 o0 6 44).toNat) := K869.st A1360 E1359 (by have := mz_nat9 (i := v44) (by have := R852.1 15 _ _ rfl; have := R852.1 16 _ _ rfl; have := R852.1 19 _ _ rfl; omega); have := R852.1 15 _ _ rfl; have := R852.1 16 _ _ rfl; have := R852.1 19 _ _ rfl; omega)
                have K1376 : nN M1355 o0 := K870.same (sA_a A1360 (by decide +kernel)) (sF_a V1361)
                have Z91377 : pO M1355 o0 pb pn pa s64 := Z9871.same (fun k _ _ => V1361 k) (V1361 23) (A1360 13 (by decide) rfl)
                clear z858 z859 z860 z862 z863 z864 z865 z866 z867
                refine mv_aload_n d_TrustDeskModel_readRule_118 rfl rfl ?_
                refine tr_getK (k := 8) (K1357 _ 13 8 _ q876) d_TrustDeskModel_readRule_119 f_TrustDeskModel_29_13 ?_
                refine mv_iload_n d_TrustDeskModel_readRule_122 rfl rfl ?_
                refine tr_ialdR (o := o0) (k := 8) I1356 (K1357 _ 13 8 _ q876) t857 (by decide) d_TrustDeskModel_readRule_123 (vp_in_iff.mpr (by have := R1358.1 15 _ _ rfl; have := R1358.1 16 _ _ rfl; have := R1358.1 19 _ _ rfl; omega)) (fun v1378 e1379 => ?_)
                have := R1358.a (k := 8) rfl (v44 : Int32).toNatClampNeg
                have h1380 : (880 + ra M0 o0 6 44).toNat = v44.toNatClampNeg := by have := mz_nat9 (i := v44) (by have := R1358.1 15 _ _ rfl; have := R1358.1 16 _ _ rfl; have := R1358.1 19 _ _ rfl; omega); have := R1358.1 15 _ _ rfl; have := R1358.1 16 _ _ rfl; have := R1358.1 19 _ _ rfl; omega
                have z1381 : v1378.toInt = ra M1355 o0 8 ((880 + ra M0 o0 6 44).toNat) := by rw [e1379, h1380]
                have : v1378.toInt = _ := Eq.trans z1381 z1374
                refine mv_iconst (v := (-1)) d_TrustDeskModel_readRule_124 (by decide) ?_
                have := mz_hi v1378
                refine mv_icmp_neZ (tgt := 133) (a := v1378.toInt) (b := (-1)) d_TrustDeskModel_readRule_125 (by decide) rfl (by decide) (fun b1382 => ?_) (fun b1382 => absurd b1382 (by omega))
                refine mv_aload_n d_TrustDeskModel_readRule_133 rfl rfl ?_
                obtain ⟨_, b1383, -⟩ := I1356.1 _ _ t856
                refine mv_callV (kc1 := 0) (ks1 := 0) (kc' := 0) (ks' := 0) (As := []) (st9 := [.ref o0]) d_TrustDeskModel_readRule_134 lV_TrustDeskModel_230 b1383 rfl (mj_enter (by decide) (Nat.le_of_ble_eq_true rfl) ?_) rfl (Nat.le_of_ble_eq_true rfl) (Nat.le_of_ble_eq_true rfl) (Nat.le_of_ble_eq_true rfl) (hst := rfl) (fun _ _ _ h => h)
                refine mv_aload_n d_TrustDeskModel_isWell_0 rfl rfl ?_
                refine tr_getK (k := 19) (K1357 _ 13 19 _ q875) d_TrustDeskModel_isWell_1 f_TrustDeskModel_224_13 ?_
                have := mz_hi v35
                refine mv_if_neZ (tgt := 11) (a := v35.toInt) d_TrustDeskModel_isWell_4 (by decide) rfl (fun b1384 => absurd b1384 (by omega)) (fun b1384 => ?_)
                refine mv_iconst (v := 1) d_TrustDeskModel_isWell_7 (by decide) ?_
                refine mv_goto (tgt := 12) d_TrustDeskModel_isWell_8 (by decide) ?_
                refine mv_iret d_TrustDeskModel_isWell_12 rfl (by decide) ?_
                refine mv_if_eq_f (tgt := 144) d_TrustDeskModel_readRule_137 (by decide) (by decide) ?_
                refine mv_aload_n d_TrustDeskModel_readRule_140 rfl rfl ?_
                obtain ⟨_, b1391, -⟩ := I1356.1 _ _ t856
                refine mv_callV (kc' := 0) (ks' := 0) (As := []) (st9 := [.ref o0]) d_TrustDeskModel_readRule_141 lV_TrustDeskModel_237 b1391 rfl (tc_TrustDeskModel_next_x (d := (d + 23)) (x9 := x9) (o0 := o0) t856 R1358 Z91377.p I1356.start) rfl (Nat.le_of_ble_eq_true rfl) (Nat.le_of_ble_eq_true rfl) (Nat.le_of_ble_eq_true rfl) (hst := rfl) (fun b1385r M1386 n1387 b1385 => ?_)
                obtain ⟨T1388, J1389, rfl, R1392, f1393, f1394, f1395⟩ := b1385
                have I1390 := I1356.call J1389 (tm_sub (by decide)) (Or.inl rfl)
                have t1396 := J1389.up t856
                have z1397 := (rv_c I1356 J1389 (I1356.up h_o0) (k := 19) rfl).trans z1365
                have z1398 := (rv_c I1356 J1389 (I1356.up h_o0) (k := 22) rfl).trans z1366
                have z1399 := (rv_c I1356 J1389 (I1356.up h_o0) (k := 24) rfl).trans z1367
                have z1400 := (ra_call I1356 J1389 (I1356.up h_o0) (k := 5) rfl rfl rfl 44).trans z1368
                have z1401 := (ra_call I1356 J1389 (I1356.up h_o0) (k := 6) rfl rfl rfl 44).trans z1369
                have z1402 := (ra_call I1356 J1389 (I1356.up h_o0) (k := 7) rfl rfl rfl ((880 + ra M0 o0 6 44).toNat)).trans z1370
                have z1403 := (ra_call I1356 J1389 (I1356.up h_o0) (k := 10) rfl rfl rfl ((880 + ra M0 o0 6 44).toNat)).trans z1371
                have z1404 := (ra_call I1356 J1389 (I1356.up h_o0) (k := 8) rfl rfl rfl ((880 + ra M0 o0 6 44).toNat)).trans z1374
                have h1406 : rv M1355 o0 16 + 1 ≤ rv M1355 o0 15 := (by have := f853.o (by omega); have := E1372.1.2.1 (by omega); omega)
                have E1405 : rE M0 M1386 o0 0 2 := E1372.next f1393 f1394 (rv_c I1356 J1389 (I1356.up h_o0) (k := 19) rfl) (rE_ha I1356 J1389 (I1356.up h_o0) (by decide)) (e := 1) h1406 (by decide)
                have K1407 : rK M0 M1386 o0 ((880 + ra M0 o0 6 44).toNat) := K1375.same (sA_c I1356 J1389 (I1356.up h_o0) (by decide +kernel))
                have K1408 : nN M1386 o0 := K1376.same (sA_c I1356 J1389 (I1356.up h_o0) (by decide +kernel)) (sF_c I1356 J1389 (I1356.up h_o0) (by decide +kernel))
                obtain ⟨s1409, e1410⟩ : ∃ s9 : p_S, p_nx s64 = s9 := ⟨_, rfl⟩
                rw [e1410] at f1395
                have := f1395.w
                clear z1366 z1367 z1368 z1369 z1370 z1371 z1374
                have q1411 := J1389.keep t856 (by decide) (K1357 _ 13 6 _ q873)
                have t1412 := J1389.up t874
                have q1413 := J1389.keep t856 (by decide) (K1357 _ 13 19 _ q875)
                have q1414 := J1389.keep t856 (by decide) (K1357 _ 13 8 _ q876)
                have t1415 := J1389.up t857
                refine mv_aload_n d_TrustDeskModel_readRule_144 rfl rfl ?_
                refine mv_ldcSw (id := 25) (tx := "if") d_TrustDeskModel_readRule_145 (List.mem_of_getElem? (i := 15) rfl) ?_
                obtain ⟨_, b1422, -⟩ := I1390.1 _ _ t1396
                refine mv_callV (kc' := 0) (ks' := 0) (As := [.ref 25]) (st9 := [.ref 25, .ref o0]) d_TrustDeskModel_readRule_148 lV_TrustDeskModel_329 b1422 rfl (tc_TrustDeskModel_wantWord_s1_25_x (d := (d + 19)) (x9 := x9) (o0 := o0) t1396 R1392 E1405.1 (E1405.s yS (by decide)) f1395 I1390.start) rfl (Nat.le_of_ble_eq_true rfl) (Nat.le_of_ble_eq_true rfl) (Nat.le_of_ble_eq_true rfl) (hst := rfl) (fun b1416r M1417 n1418 b1416 => ?_)
                obtain ⟨T1419, J1420, rfl, R1423, f1424, f1425⟩ := b1416
                have I1421 := I1390.call J1420 (tm_sub (by decide)) (Or.inl rfl)
                have t1426 := J1420.up t1396
                have := f1424.2.1
                have f1427 := Im.i f1424.w.2
                have f1428 := Im.i f1424.w2
                have z1429 := (rv_c I1390 J1420 (I1390.up h_o0) (k := 22) rfl).trans z1398
                have z1430 := (rv_c I1390 J1420 (I1390.up h_o0) (k := 24) rfl).trans z1399
                have z1431 := (ra_call I1390 J1420 (I1390.up h_o0) (k := 5) rfl rfl rfl 44).trans z1400
                have z1432 := (ra_call I1390 J1420 (I1390.up h_o0) (k := 6) rfl rfl rfl 44).trans z1401
                have z1433 := (ra_call I1390 J1420 (I1390.up h_o0) (k := 7) rfl rfl rfl ((880 + ra M0 o0 6 44).toNat)).trans z1402
                have z1434 := (ra_call I1390 J1420 (I1390.up h_o0) (k := 10) rfl rfl rfl ((880 + ra M0 o0 6 44).toNat)).trans z1403
                have z1435 := (ra_call I1390 J1420 (I1390.up h_o0) (k := 8) rfl rfl rfl ((880 + ra M0 o0 6 44).toNat)).trans z1404
                have E1436 : rE M0 M1417 o0 0 3 := E1405.trans f1424 (by decide) (yR.2 5 _ _ rfl 44).1 (by decide) (by decide)
                have K1437 : rK M0 M1417 o0 ((880 + ra M0 o0 6 44).toNat) := K1407.same (sA_c I1390 J1420 (I1390.up h_o0) (by decide +kernel))
                have K1438 : nN M1417 o0 := K1408.same (sA_c I1390 J1420 (I1390.up h_o0) (by decide +kernel)) (sF_c I1390 J1420 (I1390.up h_o0) (by decide +kernel))
                obtain ⟨s1439, e1440⟩ : ∃ s9 : p_S, p_wd pb pn 28 s1409 = s9 := ⟨_, rfl⟩
                rw [e1440] at f1425
                have := f1425.w
                clear z1398 z1399 z1400 z1401 z1402 z1403 z1404
                have q1441 := J1420.keep t1396 (by decide) q1411
                have t1442 := J1420.up t1412
                have q1443 := J1420.keep t1396 (by decide) q1414
                have t1444 := J1420.up t1415
                refine mv_aload_n d_TrustDeskModel_readRule_151 rfl rfl ?_
                obtain ⟨a1446, q1445, t_a1446⟩ := tm_atR I1421 t1426 (k := 11) rfl
                refine tr_getK q1445 d_TrustDeskModel_readRule_152 f_TrustDeskModel_38_13 ?_
                refine mv_iload_n d_TrustDeskModel_readRule_155 rfl rfl ?_
                refine mv_aload_n d_TrustDeskModel_readRule_156 rfl rfl ?_
                obtain ⟨a1448, q1447, t_a1448⟩ := tm_atR I1421 t1426 (k := 5) rfl
                refine tr_getK q1447 d_TrustDeskModel_readRule_157 f_TrustDeskModel_20_13 ?_
                refine mv_bipush (v := 44) d_TrustDeskModel_readRule_160 (by decide) ?_
                refine tr_ialdR (o := o0) (k := 5) I1421 q1447 t_a1448 (by decide) d_TrustDeskModel_readRule_162 (by unfold vp_in; decide) (fun v1449 e1450 => ?_)
                have := R1423.a (k := 5) rfl (44 : Int32).toNatClampNeg
                have : v1449.toInt = ra M1417 o0 5 44 := e1450
                have : v1449.toInt = _ := Eq.trans e1450 z1431
                refine tr_iastR (k := 11) I1421 R1423 (I1421.up h_o0) q1445 t_a1446 (by decide) (by decide) (fun lo hi h => by cases h; have := R1423.1 15 _ _ rfl; have := R1423.1 16 _ _ rfl; have := R1423.1 19 _ _ rfl; exact ⟨by show (0 : Int) ≤ v1449.toInt; omega, by show v1449.toInt ≤ (400 : Int); omega⟩) (Or.inl (by decide)) d_TrustDeskModel_readRule_163 (vp_in_iff.mpr (by have := R1423.1 15 _ _ rfl; have := R1423.1 16 _ _ rfl; have := R1423.1 19 _ _ rfl; omega)) (fun M1451 I1452 K1453 R1454 E1455 A1456 V1457 => ?_)
                have z1458 := (V1457 15)
                have z1459 := (V1457 16)
                have z1460 := (V1457 17)
                have z1461 := (V1457 19)
                have z1462 := (V1457 22).trans z1429
                have z1463 := (V1457 24).trans z1430
                have z1464 := (A1456 5 (by decide) rfl 44).trans z1431
                have z1465 := (A1456 6 (by decide) rfl 44).trans z1432
                have z1466 := (A1456 7 (by decide) rfl ((880 + ra M0 o0 6 44).toNat)).trans z1433
                have z1467 := (A1456 10 (by decide) rfl ((880 + ra M0 o0 6 44).toNat)).trans z1434
                have z1468 := (A1456 8 (by decide) rfl ((880 + ra M0 o0 6 44).toNat)).trans z1435
                have E1469 : rE M0 M1451 o0 0 3 := E1436.same (fun k _ _ => V1457 k) (fun k h1 h2 => A1456 k (by omega) (by rcases (show k = 4 ∨ k = 5 by omega) with rfl | rfl <;> rfl))
                have h1470 : (880 + ra M0 o0 6 44).toNat = v44.toNatClampNeg := by have := mz_nat9 (i := v44) (by have := R1423.1 15 _ _ rfl; have := R1423.1 16 _ _ rfl; have := R1423.1 19 _ _ rfl; omega); have := R1423.1 15 _ _ rfl; have := R1423.1 16 _ _ rfl; have := R1423.1 19 _ _ rfl; omega
                have z1471 : ra M1451 o0 11 ((880 + ra M0 o0 6 44).toNat) = v1449.toInt := (E1455 _).trans (if_pos h1470)
                have K1472 : rK M0 M1451 o0 ((880 + ra M0 o0 6 44).toNat) := K1437.st A1456 E1455 (by have := mz_nat9 (i := v44) (by have := R1423.1 15 _ _ rfl; have := R1423.1 16 _ _ rfl; have := R1423.1 19 _ _ rfl; omega); have := R1423.1 15 _ _ rfl; have := R1423.1 16 _ _ rfl; have := R1423.1 19 _ _ rfl; omega)
                have K1473 : nN M1451 o0 := K1438.same (sA_a A1456 (by decide +kernel)) (sF_a V1457)
                have F1474 : rE M1451 M1451 o0 0 0 := rE.rf E1469.1
                have : ra M1451 o0 5 44 = v1449.toInt := by omega
                have Z91475 : pO M1451 o0 pb pn pa s1439 := f1425.same (fun k _ _ => V1457 k) (V1457 23) (A1456 13 (by decide) rfl)
                clear z1429 z1430 z1431 z1432 z1433 z1434 z1435
                refine mv_aload_n d_TrustDeskModel_readRule_164 rfl rfl ?_
                obtain ⟨_, b1482, -⟩ := I1452.1 _ _ t1426
                refine mv_callV (kc' := 0) (ks' := 0) (As := []) (st9 := [.ref o0]) d_TrustDeskModel_readRule_165 lV_TrustDeskModel_302 b1482 rfl (tc_TrustDeskModel_cond_q5_x (d := d) (x9 := x9) (o0 := o0) t1426 R1454 E1469.1 (E1469.s yS (by decide)) (Classical.byCases (fun w9 : rv M1451 o0 19 = 0 => by have u91 : rv M1417 o0 19 = 0 := (by omega); have := f1427.o u91; have := f1428.o u91; have u92 : rv M38 o0 19 = 0 := (by omega); have := f54.o u92; have := f55.o u92; omega) (fun w9 : ¬ rv M1451 o0 19 = 0 => by omega)) Z91475 I1452.start) rfl (Nat.le_of_ble_eq_true rfl) (Nat.le_of_ble_eq_true rfl) (Nat.le_of_ble_eq_true rfl) (hst := rfl) (fun b1476r M1477 n1478 b1476 => ?_)
                obtain ⟨T1479, J1480, rfl, R1483, f1484, f1485, f1486⟩ := b1476
                have I1481 := I1452.call J1480 (tm_sub (by decide)) (Or.inl rfl)
                have t1487 := J1480.up t1426
                have := f1484.2.1
                have f1488 := Im.i f1484.w.2
                have f1489 := Im.i f1484.w2
                replace f1485 := Im.i f1485
                have z1490 := (rv_c I1452 J1480 (I1452.up h_o0) (k := 24) rfl).trans z1463
                have z1491 := (ra_call I1452 J1480 (I1452.up h_o0) (k := 6) rfl rfl rfl 44).trans z1465
                have z1492 := (ra_call I1452 J1480 (I1452.up h_o0) (k := 7) rfl rfl rfl ((880 + ra M0 o0 6 44).toNat)).trans z1466
                have z1493 := (ra_call I1452 J1480 (I1452.up h_o0) (k := 10) rfl rfl rfl ((880 + ra M0 o0 6 44).toNat)).trans z1467
                have z1494 := (ra_call I1452 J1480 (I1452.up h_o0) (k := 8) rfl rfl rfl ((880 + ra M0 o0 6 44).toNat)).trans z1468
                have z1495 := (ra_call I1452 J1480 (I1452.up h_o0) (k := 11) rfl rfl rfl ((880 + ra M0 o0 6 44).toNat)).trans z1471
                have E1496 : rE M0 M1477 o0 1 3 := E1469.trans f1484 (by decide) (yR.2 5 _ _ rfl 44).1 (by decide) (by decide)
                have K1497 : rK M0 M1477 o0 ((880 + ra M0 o0 6 44).toNat) := K1472.same (sA_c I1452 J1480 (I1452.up h_o0) (by decide +kernel))
                have K1498 : nN M1477 o0 := K1473.same (sA_c I1452 J1480 (I1452.up h_o0) (by decide +kernel)) (sF_c I1452 J1480 (I1452.up h_o0) (by decide +kernel))
                have F1499 : rE M1451 M1477 o0 1 0 := F1474.trans f1484 (by decide) (R1454.2 5 _ _ rfl 44).1 (by decide) (by decide)
                obtain ⟨s1500, e1501⟩ : ∃ s9 : p_S, p_con pb pn pa 4 (p_oc pb pn pa 4) s1439 = s9 := ⟨_, rfl⟩
                rw [e1501] at f1486
                have := f1486.w
                clear z1463 z1465 z1466 z1467 z1468 z1471
                have q1502 := J1480.keep t1426 (by decide) (K1453 _ 13 6 _ q1441)
                have t1503 := J1480.up t1442
                have q1504 := J1480.keep t1426 (by decide) (K1453 _ 13 8 _ q1443)
                have t1505 := J1480.up t1444
                have q1506 := J1480.keep t1426 (by decide) (K1453 _ 13 11 _ q1445)
                have t1507 := J1480.up t_a1446
                have q1508 := J1480.keep t1426 (by decide) (K1453 _ 13 5 _ q1447)
                have t1509 := J1480.up t_a1448
                refine mv_goto (tgt := 251) d_TrustDeskModel_readRule_168 (by decide) ?_
                refine mv_aload_n d_TrustDeskModel_readRule_251 rfl rfl ?_
                refine mv_bipush (v := 59) d_TrustDeskModel_readRule_252 (by decide) ?_
                obtain ⟨_, b1516, -⟩ := I1481.1 _ _ t1487
                have : (59 : Int32).toInt = 59 := by decide
                refine mv_callV (kc' := 0) (ks' := 0) (As := [.int 59]) (st9 := [.int 59, .ref o0]) d_TrustDeskModel_readRule_254 lV_TrustDeskModel_291 b1516 rfl (tc_TrustDeskModel_wantSign_x (d := (d + 22)) (x9 := x9) (o0 := o0) (x1 := 59) t1487 R1483 E1496.1 (E1496.s yS (by decide)) (by decide) f1486 I1481.start) rfl (Nat.le_of_ble_eq_true rfl) (Nat.le_of_ble_eq_true rfl) (Nat.le_of_ble_eq_true rfl) (hst := rfl) (fun b1510r M1511 n1512 b1510 => ?_)
                obtain ⟨T1513, J1514, rfl, R1517, f1518, f1519⟩ := b1510
                have I1515 := I1481.call J1514 (tm_sub (by decide)) (Or.inl rfl)
                have t1520 := J1514.up t1487
                have := f1518.2.1
                have f1521 := Im.i f1518.w.2
                have f1522 := Im.i f1518.w2
                have z1523 := (rv_c I1481 J1514 (I1481.up h_o0) (k := 22) rfl)
                have z1524 := (rv_c I1481 J1514 (I1481.up h_o0) (k := 24) rfl).trans z1490
                have z1525 := (ra_call I1481 J1514 (I1481.up h_o0) (k := 5) rfl rfl rfl 44)
                have z1526 := (ra_call I1481 J1514 (I1481.up h_o0) (k := 6) rfl rfl rfl 44).trans z1491
                have z1527 := (ra_call I1481 J1514 (I1481.up h_o0) (k := 7) rfl rfl rfl ((880 + ra M0 o0 6 44).toNat)).trans z1492
                have z1528 := (ra_call I1481 J1514 (I1481.up h_o0) (k := 10) rfl rfl rfl ((880 + ra M0 o0 6 44).toNat)).trans z1493
                have z1529 := (ra_call I1481 J1514 (I1481.up h_o0) (k := 8) rfl rfl rfl ((880 + ra M0 o0 6 44).toNat)).trans z1494
                have z1530 := (ra_call I1481 J1514 (I1481.up h_o0) (k := 11) rfl rfl rfl ((880 + ra M0 o0 6 44).toNat)).trans z1495
                have E1531 : rE M0 M1511 o0 1 4 := E1496.trans f1518 (by decide) (yR.2 5 _ _ rfl 44).1 (by decide) (by decide)
                have K1532 : rK M0 M1511 o0 ((880 + ra M0 o0 6 44).toNat) := K1497.same (sA_c I1481 J1514 (I1481.up h_o0) (by decide +kernel))
                have K1533 : nN M1511 o0 := K1498.same (sA_c I1481 J1514 (I1481.up h_o0) (by decide +kernel)) (sF_c I1481 J1514 (I1481.up h_o0) (by decide +kernel))
                have F1534 : rE M1451 M1511 o0 1 1 := F1499.trans f1518 (by decide) (R1454.2 5 _ _ rfl 44).1 (by decide) (by decide)
                rw [show (59 : Int32).toInt = 59 from by decide] at f1519
                obtain ⟨s1535, e1536⟩ : ∃ s9 : p_S, p_sg pb pn 59 s1500 = s9 := ⟨_, rfl⟩
                rw [e1536] at f1519
                have := f1519.w
                clear z1490 z1491 z1492 z1493 z1494 z1495
                have q1537 := J1514.keep t1487 (by decide) q1502
                have t1538 := J1514.up t1503
                have q1539 := J1514.keep t1487 (by decide) q1504
                have t1540 := J1514.up t1505
                have q1541 := J1514.keep t1487 (by decide) q1506
                have t1542 := J1514.up t1507
                have q1543 := J1514.keep t1487 (by decide) q1508
                have t1544 := J1514.up t1509
                refine mv_aload_n d_TrustDeskModel_readRule_257 rfl rfl ?_
                obtain ⟨a1546, q1545, t_a1546⟩ := tm_atR I1515 t1520 (k := 12) rfl
                refine tr_getK q1545 d_TrustDeskModel_readRule_258 f_TrustDeskModel_41_13 ?_
                refine mv_iload_n d_TrustDeskModel_readRule_261 rfl rfl ?_
                refine mv_aload_n d_TrustDeskModel_readRule_262 rfl rfl ?_
                refine tr_getK (k := 5) q1543 d_TrustDeskModel_readRule_263 f_TrustDeskModel_20_13 ?_
                refine mv_bipush (v := 44) d_TrustDeskModel_readRule_266 (by decide) ?_
                refine tr_ialdR (o := o0) (k := 5) I1515 q1543 t1544 (by decide) d_TrustDeskModel_readRule_268 (by unfold vp_in; decide) (fun v1547 e1548 => ?_)
                have := R1517.a (k := 5) rfl (44 : Int32).toNatClampNeg
                have : v1547.toInt = ra M1511 o0 5 44 := e1548
                have : v1547.toInt = _ := Eq.trans e1548 z1525
                refine tr_iastR (k := 12) I1515 R1517 (I1515.up h_o0) q1545 t_a1546 (by decide) (by decide) (fun lo hi h => by cases h; have := R1517.1 15 _ _ rfl; have := R1517.1 16 _ _ rfl; have := R1517.1 19 _ _ rfl; exact ⟨by show (0 : Int) ≤ v1547.toInt; omega, by show v1547.toInt ≤ (400 : Int); omega⟩) (Or.inl (by decide)) d_TrustDeskModel_readRule_269 (vp_in_iff.mpr (by have := R1517.1 15 _ _ rfl; have := R1517.1 16 _ _ rfl; have := R1517.1 19 _ _ rfl; omega)) (fun M1549 I1550 K1551 R1552 E1553 A1554 V1555 => ?_)
                have z1556 := (V1555 15)
                have z1557 := (V1555 16)
                have z1558 := (V1555 17)
                have z1559 := (V1555 19)
                have z1560 := (V1555 22).trans z1523
                have z1561 := (V1555 24).trans z1524
                have z1562 := (A1554 5 (by decide) rfl 44).trans z1525
                have z1563 := (A1554 6 (by decide) rfl 44).trans z1526
                have z1564 := (A1554 7 (by decide) rfl ((880 + ra M0 o0 6 44).toNat)).trans z1527
                have z1565 := (A1554 10 (by decide) rfl ((880 + ra M0 o0 6 44).toNat)).trans z1528
                have z1566 := (A1554 8 (by decide) rfl ((880 + ra M0 o0 6 44).toNat)).trans z1529
                have z1567 := (A1554 11 (by decide) rfl ((880 + ra M0 o0 6 44).toNat)).trans z1530
                have E1568 : rE M0 M1549 o0 1 4 := E1531.same (fun k _ _ => V1555 k) (fun k h1 h2 => A1554 k (by omega) (by rcases (show k = 4 ∨ k = 5 by omega) with rfl | rfl <;> rfl))
                have h1569 : (880 + ra M0 o0 6 44).toNat = v44.toNatClampNeg := by have := mz_nat9 (i := v44) (by have := R1517.1 15 _ _ rfl; have := R1517.1 16 _ _ rfl; have := R1517.1 19 _ _ rfl; omega); have := R1517.1 15 _ _ rfl; have := R1517.1 16 _ _ rfl; have := R1517.1 19 _ _ rfl; omega
                have z1570 : ra M1549 o0 12 ((880 + ra M0 o0 6 44).toNat) = v1547.toInt := (E1553 _).trans (if_pos h1569)
                have K1571 : rK M0 M1549 o0 ((880 + ra M0 o0 6 44).toNat) := K1532.st A1554 E1553 (by have := mz_nat9 (i := v44) (by have := R1517.1 15 _ _ rfl; have := R1517.1 16 _ _ rfl; have := R1517.1 19 _ _ rfl; omega); have := R1517.1 15 _ _ rfl; have := R1517.1 16 _ _ rfl; have := R1517.1 19 _ _ rfl; omega)
                have K1572 : nN M1549 o0 := K1533.same (sA_a A1554 (by decide +kernel)) (sF_a V1555)
                have F1573 : rE M1451 M1549 o0 1 1 := F1534.same (fun k _ _ => V1555 k) (fun k h1 h2 => A1554 k (by omega) (by rcases (show k = 4 ∨ k = 5 by omega) with rfl | rfl <;> rfl))
                have Z91574 : pO M1549 o0 pb pn pa s1535 := f1519.same (fun k _ _ => V1555 k) (V1555 23) (A1554 13 (by decide) rfl)
                clear z1523 z1524 z1525 z1526 z1527 z1528 z1529 z1530
                exact mv_vret d_TrustDeskModel_readRule_270 rfl ⟨_, I1550, rfl, R1552, (rW.of E1568.1 (E1568.s yS (by decide)) (fun w9 => by have u91 : rv M1511 o0 19 = 0 := (by omega); have := f1521.o u91; have := f1522.o u91; have u92 : rv M1477 o0 19 = 0 := (by omega); have := f1488.o u92; have := f1489.o u92; have := f1485.o u92; have u93 : rv M1417 o0 19 = 0 := (by omega); have := f1427.o u93; have := f1428.o u93; have u94 : rv M38 o0 19 = 0 := (by omega); have := f54.o u94; have := f55.o u94; exact rG.step yG yR E1568 w9 K1571 (by have := yR.2 6 _ _ rfl 44; omega) (by have := R1552.1 15 _ _ rfl; have := R1552.1 16 _ _ rfl; have := R1552.1 19 _ _ rfl; omega) (by have := R1552.1 15 _ _ rfl; have := R1552.1 16 _ _ rfl; have := R1552.1 19 _ _ rfl; omega) (fun _ => rowN.of E1469 F1573 w9 (by decide) (by decide) (yR.2 5 _ _ rfl 44).1 (by have := R1552.1 15 _ _ rfl; have := R1552.1 16 _ _ rfl; have := R1552.1 19 _ _ rfl; omega) (by have := R1552.1 15 _ _ rfl; have := R1552.1 16 _ _ rfl; have := R1552.1 19 _ _ rfl; omega) (by have := R1552.1 15 _ _ rfl; have := R1552.1 16 _ _ rfl; have := R1552.1 19 _ _ rfl; omega)) (fun h9 => (by have := R1552.1 15 _ _ rfl; have := R1552.1 16 _ _ rfl; have := R1552.1 19 _ _ rfl; omega)) (by have := R1552.1 15 _ _ rfl; have := R1552.1 16 _ _ rfl; have := R1552.1 19 _ _ rfl; omega) K1572)), (rO.of E1568 K1571 (by have := yR.2 6 _ _ rfl 44; omega)), ⟨E1568.2.1, fun w9 => by skip; have := E1568.w2 w9; omega⟩, (fun w9 => by have u91 : rv M1511 o0 19 = 0 := (by omega); have := f1521.o u91; have := f1522.o u91; have u92 : rv M1477 o0 19 = 0 := (by omega); have := f1488.o u92; have := f1489.o u92; have := f1485.o u92; have u93 : rv M1417 o0 19 = 0 := (by omega); have := f1427.o u93; have := f1428.o u93; have u94 : rv M38 o0 19 = 0 := (by omega); have := f54.o u94; have := f55.o u94; omega), (by first | (have := pW0 (Im.o d800) (by omega); have := Z9799.wk; have := pW0 (Im.o d836) (by omega); have := pW1 (Im.o d872) (by omega); rw [show p_rul pb pn pa pc9 ps = s1535 from (by unfold p_rul; unfold p_bar; (try simp only [e65, e1410, e1440, e1501, e1536]); ((repeat' (first | (with_reducible rfl) | split)) <;> (first | ((try simp only [e65, e1410, e1440, e1501, e1536]); done) | ((try simp only [e65, e1410, e1440, e1501, e1536]); first | exact p_sg_Z _ (by omega) | exact (p_sg_Z _ (by omega)).symm | omega) | (exfalso; omega))))]; exact Z91574) | (exfalso; have := R1552.1 15 _ _ rfl; have := R1552.1 16 _ _ rfl; have := R1552.1 19 _ _ rfl; omega)), (fun w9 => by have u91 : rv M1511 o0 19 = 0 := (by omega); have := f1521.o u91; have := f1522.o u91; have u92 : rv M1477 o0 19 = 0 := (by omega); have := f1488.o u92; have := f1489.o u92; have := f1485.o u92; have u93 : rv M1417 o0 19 = 0 := (by omega); have := f1427.o u93; have := f1428.o u93; have u94 : rv M38 o0 19 = 0 := (by omega); have := f54.o u94; have := f55.o u94; omega)⟩
            · refine mv_iconst (v := 1) d_TrustDeskModel_readRule_84 (by decide) ?_
              refine mv_goto (tgt := 117) d_TrustDeskModel_readRule_85 (by decide) ?_
              refine tr_iastR (k := 8) I811 R816 (I811.up h_o0) q840 t821 (by decide) (by decide) (fun lo hi h => by cases h; have e9 : (1 : Int32).toInt = 1 := (by decide); exact ⟨by show ((-1) : Int) ≤ (1 : Int32).toInt; omega, by show (1 : Int32).toInt ≤ (720 : Int); omega⟩) (Or.inl (by decide)) d_TrustDeskModel_readRule_117 (vp_in_iff.mpr (by have := R816.1 15 _ _ rfl; have := R816.1 16 _ _ rfl; have := R816.1 19 _ _ rfl; omega)) (fun M1575 I1576 K1577 R1578 E1579 A1580 V1581 => ?_)
              have z1582 := (V1581 15).trans z822
              have z1583 := (V1581 16).trans z823
              have z1584 := (V1581 17).trans z824
              have z1585 := (V1581 19).trans z825
              have z1586 := (V1581 22).trans z826
              have z1587 := (V1581 24).trans z827
              have z1588 := (A1580 5 (by decide) rfl 44).trans z828
              have z1589 := (A1580 6 (by decide) rfl 44).trans z829
              have z1590 := (A1580 7 (by decide) rfl ((880 + ra M0 o0 6 44).toNat)).trans z830
              have z1591 := (A1580 10 (by decide) rfl ((880 + ra M0 o0 6 44).toNat)).trans z831
              have E1592 : rE M0 M1575 o0 0 1 := E832.same (fun k _ _ => V1581 k) (fun k h1 h2 => A1580 k (by omega) (by rcases (show k = 4 ∨ k = 5 by omega) with rfl | rfl <;> rfl))
              have h1593 : (880 + ra M0 o0 6 44).toNat = v44.toNatClampNeg := by have := mz_nat9 (i := v44) (by have := R816.1 15 _ _ rfl; have := R816.1 16 _ _ rfl; have := R816.1 19 _ _ rfl; omega); have := R816.1 15 _ _ rfl; have := R816.1 16 _ _ rfl; have := R816.1 19 _ _ rfl; omega
              have z1594 : ra M1575 o0 8 ((880 + ra M0 o0 6 44).toNat) = 1 := (E1579 _).trans (if_pos h1593)
              have K1595 : rK M0 M1575 o0 ((880 + ra M0 o0 6 44).toNat) := K833.st A1580 E1579 (by have := mz_nat9 (i := v44) (by have := R816.1 15 _ _ rfl; have := R816.1 16 _ _ rfl; have := R816.1 19 _ _ rfl; omega); have := R816.1 15 _ _ rfl; have := R816.1 16 _ _ rfl; have := R816.1 19 _ _ rfl; omega)
              have K1596 : nN M1575 o0 := K834.same (sA_a A1580 (by decide +kernel)) (sF_a V1581)
              have Z91597 : pO M1575 o0 pb pn pa s64 := Z9835.same (fun k _ _ => V1581 k) (V1581 23) (A1580 13 (by decide) rfl)
              clear z822 z823 z824 z826 z827 z828 z829 z830 z831
              refine mv_aload_n d_TrustDeskModel_readRule_118 rfl rfl ?_
              refine tr_getK (k := 8) (K1577 _ 13 8 _ q840) d_TrustDeskModel_readRule_119 f_TrustDeskModel_29_13 ?_
              refine mv_iload_n d_TrustDeskModel_readRule_122 rfl rfl ?_
              refine tr_ialdR (o := o0) (k := 8) I1576 (K1577 _ 13 8 _ q840) t821 (by decide) d_TrustDeskModel_readRule_123 (vp_in_iff.mpr (by have := R1578.1 15 _ _ rfl; have := R1578.1 16 _ _ rfl; have := R1578.1 19 _ _ rfl; omega)) (fun v1598 e1599 => ?_)
              have := R1578.a (k := 8) rfl (v44 : Int32).toNatClampNeg
              have h1600 : (880 + ra M0 o0 6 44).toNat = v44.toNatClampNeg := by have := mz_nat9 (i := v44) (by have := R1578.1 15 _ _ rfl; have := R1578.1 16 _ _ rfl; have := R1578.1 19 _ _ rfl; omega); have := R1578.1 15 _ _ rfl; have := R1578.1 16 _ _ rfl; have := R1578.1 19 _ _ rfl; omega
              have z1601 : v1598.toInt = ra M1575 o0 8 ((880 + ra M0 o0 6 44).toNat) := by rw [e1599, h1600]
              have : v1598.toInt = _ := Eq.trans z1601 z1594
              refine mv_iconst (v := (-1)) d_TrustDeskModel_readRule_124 (by decide) ?_
              have := mz_hi v1598
              refine mv_icmp_neZ (tgt := 133) (a := v1598.toInt) (b := (-1)) d_TrustDeskModel_readRule_125 (by decide) rfl (by decide) (fun b1602 => ?_) (fun b1602 => absurd b1602 (by omega))
              refine mv_aload_n d_TrustDeskModel_readRule_133 rfl rfl ?_
              obtain ⟨_, b1603, -⟩ := I1576.1 _ _ t820
              refine mv_callV (kc1 := 0) (ks1 := 0) (kc' := 0) (ks' := 0) (As := []) (st9 := [.ref o0]) d_TrustDeskModel_readRule_134 lV_TrustDeskModel_230 b1603 rfl (mj_enter (by decide) (Nat.le_of_ble_eq_true rfl) ?_) rfl (Nat.le_of_ble_eq_true rfl) (Nat.le_of_ble_eq_true rfl) (Nat.le_of_ble_eq_true rfl) (hst := rfl) (fun _ _ _ h => h)
              refine mv_aload_n d_TrustDeskModel_isWell_0 rfl rfl ?_
              refine tr_getK (k := 19) (K1577 _ 13 19 _ q839) d_TrustDeskModel_isWell_1 f_TrustDeskModel_224_13 ?_
              have := mz_hi v35
              refine mv_if_neZ (tgt := 11) (a := v35.toInt) d_TrustDeskModel_isWell_4 (by decide) rfl (fun b1604 => absurd b1604 (by omega)) (fun b1604 => ?_)
              refine mv_iconst (v := 1) d_TrustDeskModel_isWell_7 (by decide) ?_
              refine mv_goto (tgt := 12) d_TrustDeskModel_isWell_8 (by decide) ?_
              refine mv_iret d_TrustDeskModel_isWell_12 rfl (by decide) ?_
              refine mv_if_eq_f (tgt := 144) d_TrustDeskModel_readRule_137 (by decide) (by decide) ?_
              refine mv_aload_n d_TrustDeskModel_readRule_140 rfl rfl ?_
              obtain ⟨_, b1611, -⟩ := I1576.1 _ _ t820
              refine mv_callV (kc' := 0) (ks' := 0) (As := []) (st9 := [.ref o0]) d_TrustDeskModel_readRule_141 lV_TrustDeskModel_237 b1611 rfl (tc_TrustDeskModel_next_x (d := (d + 23)) (x9 := x9) (o0 := o0) t820 R1578 Z91597.p I1576.start) rfl (Nat.le_of_ble_eq_true rfl) (Nat.le_of_ble_eq_true rfl) (Nat.le_of_ble_eq_true rfl) (hst := rfl) (fun b1605r M1606 n1607 b1605 => ?_)
              obtain ⟨T1608, J1609, rfl, R1612, f1613, f1614, f1615⟩ := b1605
              have I1610 := I1576.call J1609 (tm_sub (by decide)) (Or.inl rfl)
              have t1616 := J1609.up t820
              have z1617 := (rv_c I1576 J1609 (I1576.up h_o0) (k := 19) rfl).trans z1585
              have z1618 := (rv_c I1576 J1609 (I1576.up h_o0) (k := 22) rfl).trans z1586
              have z1619 := (rv_c I1576 J1609 (I1576.up h_o0) (k := 24) rfl).trans z1587
              have z1620 := (ra_call I1576 J1609 (I1576.up h_o0) (k := 5) rfl rfl rfl 44).trans z1588
              have z1621 := (ra_call I1576 J1609 (I1576.up h_o0) (k := 6) rfl rfl rfl 44).trans z1589
              have z1622 := (ra_call I1576 J1609 (I1576.up h_o0) (k := 7) rfl rfl rfl ((880 + ra M0 o0 6 44).toNat)).trans z1590
              have z1623 := (ra_call I1576 J1609 (I1576.up h_o0) (k := 10) rfl rfl rfl ((880 + ra M0 o0 6 44).toNat)).trans z1591
              have z1624 := (ra_call I1576 J1609 (I1576.up h_o0) (k := 8) rfl rfl rfl ((880 + ra M0 o0 6 44).toNat)).trans z1594
              have h1626 : rv M1575 o0 16 + 1 ≤ rv M1575 o0 15 := (by have := f817.o (by omega); have := E1592.1.2.1 (by omega); omega)
              have E1625 : rE M0 M1606 o0 0 2 := E1592.next f1613 f1614 (rv_c I1576 J1609 (I1576.up h_o0) (k := 19) rfl) (rE_ha I1576 J1609 (I1576.up h_o0) (by decide)) (e := 1) h1626 (by decide)
              have K1627 : rK M0 M1606 o0 ((880 + ra M0 o0 6 44).toNat) := K1595.same (sA_c I1576 J1609 (I1576.up h_o0) (by decide +kernel))
              have K1628 : nN M1606 o0 := K1596.same (sA_c I1576 J1609 (I1576.up h_o0) (by decide +kernel)) (sF_c I1576 J1609 (I1576.up h_o0) (by decide +kernel))
              obtain ⟨s1629, e1630⟩ : ∃ s9 : p_S, p_nx s64 = s9 := ⟨_, rfl⟩
              rw [e1630] at f1615
              have := f1615.w
              clear z1586 z1587 z1588 z1589 z1590 z1591 z1594
              have q1631 := J1609.keep t820 (by decide) (K1577 _ 13 6 _ q837)
              have t1632 := J1609.up t838
              have q1633 := J1609.keep t820 (by decide) (K1577 _ 13 19 _ q839)
              have q1634 := J1609.keep t820 (by decide) (K1577 _ 13 8 _ q840)
              have t1635 := J1609.up t821
              refine mv_aload_n d_TrustDeskModel_readRule_144 rfl rfl ?_
              refine mv_ldcSw (id := 25) (tx := "if") d_TrustDeskModel_readRule_145 (List.mem_of_getElem? (i := 15) rfl) ?_
              obtain ⟨_, b1642, -⟩ := I1610.1 _ _ t1616
              refine mv_callV (kc' := 0) (ks' := 0) (As := [.ref 25]) (st9 := [.ref 25, .ref o0]) d_TrustDeskModel_readRule_148 lV_TrustDeskModel_329 b1642 rfl (tc_TrustDeskModel_wantWord_s1_25_x (d := (d + 19)) (x9 := x9) (o0 := o0) t1616 R1612 E1625.1 (E1625.s yS (by decide)) f1615 I1610.start) rfl (Nat.le_of_ble_eq_true rfl) (Nat.le_of_ble_eq_true rfl) (Nat.le_of_ble_eq_true rfl) (hst := rfl) (fun b1636r M1637 n1638 b1636 => ?_)
              obtain ⟨T1639, J1640, rfl, R1643, f1644, f1645⟩ := b1636
              have I1641 := I1610.call J1640 (tm_sub (by decide)) (Or.inl rfl)
              have t1646 := J1640.up t1616
              have := f1644.2.1
              have f1647 := Im.i f1644.w.2
              have f1648 := Im.i f1644.w2
              have z1649 := (rv_c I1610 J1640 (I1610.up h_o0) (k := 22) rfl).trans z1618
              have z1650 := (rv_c I1610 J1640 (I1610.up h_o0) (k := 24) rfl).trans z1619
              have z1651 := (ra_call I1610 J1640 (I1610.up h_o0) (k := 5) rfl rfl rfl 44).trans z1620
              have z1652 := (ra_call I1610 J1640 (I1610.up h_o0) (k := 6) rfl rfl rfl 44).trans z1621
              have z1653 := (ra_call I1610 J1640 (I1610.up h_o0) (k := 7) rfl rfl rfl ((880 + ra M0 o0 6 44).toNat)).trans z1622
              have z1654 := (ra_call I1610 J1640 (I1610.up h_o0) (k := 10) rfl rfl rfl ((880 + ra M0 o0 6 44).toNat)).trans z1623
              have z1655 := (ra_call I1610 J1640 (I1610.up h_o0) (k := 8) rfl rfl rfl ((880 + ra M0 o0 6 44).toNat)).trans z1624
              have E1656 : rE M0 M1637 o0 0 3 := E1625.trans f1644 (by decide) (yR.2 5 _ _ rfl 44).1 (by decide) (by decide)
              have K1657 : rK M0 M1637 o0 ((880 + ra M0 o0 6 44).toNat) := K1627.same (sA_c I1610 J1640 (I1610.up h_o0) (by decide +kernel))
              have K1658 : nN M1637 o0 := K1628.same (sA_c I1610 J1640 (I1610.up h_o0) (by decide +kernel)) (sF_c I1610 J1640 (I1610.up h_o0) (by decide +kernel))
              obtain ⟨s1659, e1660⟩ : ∃ s9 : p_S, p_wd pb pn 28 s1629 = s9 := ⟨_, rfl⟩
              rw [e1660] at f1645
              have := f1645.w
              clear z1618 z1619 z1620 z1621 z1622 z1623 z1624
              have q1661 := J1640.keep t1616 (by decide) q1631
              have t1662 := J1640.up t1632
              have q1663 := J1640.keep t1616 (by decide) q1634
              have t1664 := J1640.up t1635
              refine mv_aload_n d_TrustDeskModel_readRule_151 rfl rfl ?_
              obtain ⟨a1666, q1665, t_a1666⟩ := tm_atR I1641 t1646 (k := 11) rfl
              refine tr_getK q1665 d_TrustDeskModel_readRule_152 f_TrustDeskModel_38_13 ?_
              refine mv_iload_n d_TrustDeskModel_readRule_155 rfl rfl ?_
              refine mv_aload_n d_TrustDeskModel_readRule_156 rfl rfl ?_
              obtain ⟨a1668, q1667, t_a1668⟩ := tm_atR I1641 t1646 (k := 5) rfl
              refine tr_getK q1667 d_TrustDeskModel_readRule_157 f_TrustDeskModel_20_13 ?_
              refine mv_bipush (v := 44) d_TrustDeskModel_readRule_160 (by decide) ?_
              refine tr_ialdR (o := o0) (k := 5) I1641 q1667 t_a1668 (by decide) d_TrustDeskModel_readRule_162 (by unfold vp_in; decide) (fun v1669 e1670 => ?_)
              have := R1643.a (k := 5) rfl (44 : Int32).toNatClampNeg
              have : v1669.toInt = ra M1637 o0 5 44 := e1670
              have : v1669.toInt = _ := Eq.trans e1670 z1651
              refine tr_iastR (k := 11) I1641 R1643 (I1641.up h_o0) q1665 t_a1666 (by decide) (by decide) (fun lo hi h => by cases h; have := R1643.1 15 _ _ rfl; have := R1643.1 16 _ _ rfl; have := R1643.1 19 _ _ rfl; exact ⟨by show (0 : Int) ≤ v1669.toInt; omega, by show v1669.toInt ≤ (400 : Int); omega⟩) (Or.inl (by decide)) d_TrustDeskModel_readRule_163 (vp_in_iff.mpr (by have := R1643.1 15 _ _ rfl; have := R1643.1 16 _ _ rfl; have := R1643.1 19 _ _ rfl; omega)) (fun M1671 I1672 K1673 R1674 E1675 A1676 V1677 => ?_)
              have z1678 := (V1677 15)
              have z1679 := (V1677 16)
              have z1680 := (V1677 17)
              have z1681 := (V1677 19)
              have z1682 := (V1677 22).trans z1649
              have z1683 := (V1677 24).trans z1650
              have z1684 := (A1676 5 (by decide) rfl 44).trans z1651
              have z1685 := (A1676 6 (by decide) rfl 44).trans z1652
              have z1686 := (A1676 7 (by decide) rfl ((880 + ra M0 o0 6 44).toNat)).trans z1653
              have z1687 := (A1676 10 (by decide) rfl ((880 + ra M0 o0 6 44).toNat)).trans z1654
              have z1688 := (A1676 8 (by decide) rfl ((880 + ra M0 o0 6 44).toNat)).trans z1655
              have E1689 : rE M0 M1671 o0 0 3 := E1656.same (fun k _ _ => V1677 k) (fun k h1 h2 => A1676 k (by omega) (by rcases (show k = 4 ∨ k = 5 by omega) with rfl | rfl <;> rfl))
              have h1690 : (880 + ra M0 o0 6 44).toNat = v44.toNatClampNeg := by have := mz_nat9 (i := v44) (by have := R1643.1 15 _ _ rfl; have := R1643.1 16 _ _ rfl; have := R1643.1 19 _ _ rfl; omega); have := R1643.1 15 _ _ rfl; have := R1643.1 16 _ _ rfl; have := R1643.1 19 _ _ rfl; omega
              have z1691 : ra M1671 o0 11 ((880 + ra M0 o0 6 44).toNat) = v1669.toInt := (E1675 _).trans (if_pos h1690)
              have K1692 : rK M0 M1671 o0 ((880 + ra M0 o0 6 44).toNat) := K1657.st A1676 E1675 (by have := mz_nat9 (i := v44) (by have := R1643.1 15 _ _ rfl; have := R1643.1 16 _ _ rfl; have := R1643.1 19 _ _ rfl; omega); have := R1643.1 15 _ _ rfl; have := R1643.1 16 _ _ rfl; have := R1643.1 19 _ _ rfl; omega)
              have K1693 : nN M1671 o0 := K1658.same (sA_a A1676 (by decide +kernel)) (sF_a V1677)
              have F1694 : rE M1671 M1671 o0 0 0 := rE.rf E1689.1
              have : ra M1671 o0 5 44 = v1669.toInt := by omega
              have Z91695 : pO M1671 o0 pb pn pa s1659 := f1645.same (fun k _ _ => V1677 k) (V1677 23) (A1676 13 (by decide) rfl)
              clear z1649 z1650 z1651 z1652 z1653 z1654 z1655
              refine mv_aload_n d_TrustDeskModel_readRule_164 rfl rfl ?_
              obtain ⟨_, b1702, -⟩ := I1672.1 _ _ t1646
              refine mv_callV (kc' := 0) (ks' := 0) (As := []) (st9 := [.ref o0]) d_TrustDeskModel_readRule_165 lV_TrustDeskModel_302 b1702 rfl (tc_TrustDeskModel_cond_q5_x (d := d) (x9 := x9) (o0 := o0) t1646 R1674 E1689.1 (E1689.s yS (by decide)) (Classical.byCases (fun w9 : rv M1671 o0 19 = 0 => by have u91 : rv M1637 o0 19 = 0 := (by omega); have := f1647.o u91; have := f1648.o u91; have u92 : rv M38 o0 19 = 0 := (by omega); have := f54.o u92; have := f55.o u92; omega) (fun w9 : ¬ rv M1671 o0 19 = 0 => by omega)) Z91695 I1672.start) rfl (Nat.le_of_ble_eq_true rfl) (Nat.le_of_ble_eq_true rfl) (Nat.le_of_ble_eq_true rfl) (hst := rfl) (fun b1696r M1697 n1698 b1696 => ?_)
              obtain ⟨T1699, J1700, rfl, R1703, f1704, f1705, f1706⟩ := b1696
              have I1701 := I1672.call J1700 (tm_sub (by decide)) (Or.inl rfl)
              have t1707 := J1700.up t1646
              have := f1704.2.1
              have f1708 := Im.i f1704.w.2
              have f1709 := Im.i f1704.w2
              replace f1705 := Im.i f1705
              have z1710 := (rv_c I1672 J1700 (I1672.up h_o0) (k := 24) rfl).trans z1683
              have z1711 := (ra_call I1672 J1700 (I1672.up h_o0) (k := 6) rfl rfl rfl 44).trans z1685
              have z1712 := (ra_call I1672 J1700 (I1672.up h_o0) (k := 7) rfl rfl rfl ((880 + ra M0 o0 6 44).toNat)).trans z1686
              have z1713 := (ra_call I1672 J1700 (I1672.up h_o0) (k := 10) rfl rfl rfl ((880 + ra M0 o0 6 44).toNat)).trans z1687
              have z1714 := (ra_call I1672 J1700 (I1672.up h_o0) (k := 8) rfl rfl rfl ((880 + ra M0 o0 6 44).toNat)).trans z1688
              have z1715 := (ra_call I1672 J1700 (I1672.up h_o0) (k := 11) rfl rfl rfl ((880 + ra M0 o0 6 44).toNat)).trans z1691
              have E1716 : rE M0 M1697 o0 1 3 := E1689.trans f1704 (by decide) (yR.2 5 _ _ rfl 44).1 (by decide) (by decide)
              have K1717 : rK M0 M1697 o0 ((880 + ra M0 o0 6 44).toNat) := K1692.same (sA_c I1672 J1700 (I1672.up h_o0) (by decide +kernel))
              have K1718 : nN M1697 o0 := K1693.same (sA_c I1672 J1700 (I1672.up h_o0) (by decide +kernel)) (sF_c I1672 J1700 (I1672.up h_o0) (by decide +kernel))
              have F1719 : rE M1671 M1697 o0 1 0 := F1694.trans f1704 (by decide) (R1674.2 5 _ _ rfl 44).1 (by decide) (by decide)
              obtain ⟨s1720, e1721⟩ : ∃ s9 : p_S, p_con pb pn pa 4 (p_oc pb pn pa 4) s1659 = s9 := ⟨_, rfl⟩
              rw [e1721] at f1706
              have := f1706.w
              clear z1683 z1685 z1686 z1687 z1688 z1691
              have q1722 := J1700.keep t1646 (by decide) (K1673 _ 13 6 _ q1661)
              have t1723 := J1700.up t1662
              have q1724 := J1700.keep t1646 (by decide) (K1673 _ 13 8 _ q1663)
              have t1725 := J1700.up t1664
              have q1726 := J1700.keep t1646 (by decide) (K1673 _ 13 11 _ q1665)
              have t1727 := J1700.up t_a1666
              have q1728 := J1700.keep t1646 (by decide) (K1673 _ 13 5 _ q1667)
              have t1729 := J1700.up t_a1668
              refine mv_goto (tgt := 251) d_TrustDeskModel_readRule_168 (by decide) ?_
              refine mv_aload_n d_TrustDeskModel_readRule_251 rfl rfl ?_
              refine mv_bipush (v := 59) d_TrustDeskModel_readRule_252 (by decide) ?_
              obtain ⟨_, b1736, -⟩ := I1701.1 _ _ t1707
              have : (59 : Int32).toInt = 59 := by decide
              refine mv_callV (kc' := 0) (ks' := 0) (As := [.int 59]) (st9 := [.int 59, .ref o0]) d_TrustDeskModel_readRule_254 lV_TrustDeskModel_291 b1736 rfl (tc_TrustDeskModel_wantSign_x (d := (d + 22)) (x9 := x9) (o0 := o0) (x1 := 59) t1707 R1703 E1716.1 (E1716.s yS (by decide)) (by decide) f1706 I1701.start) rfl (Nat.le_of_ble_eq_true rfl) (Nat.le_of_ble_eq_true rfl) (Nat.le_of_ble_eq_true rfl) (hst := rfl) (fun b1730r M1731 n1732 b1730 => ?_)
              obtain ⟨T1733, J1734, rfl, R1737, f1738, f1739⟩ := b1730
              have I1735 := I1701.call J1734 (tm_sub (by decide)) (Or.inl rfl)
              have t1740 := J1734.up t1707
              have := f1738.2.1
              have f1741 := Im.i f1738.w.2
              have f1742 := Im.i f1738.w2
              have z1743 := (rv_c I1701 J1734 (I1701.up h_o0) (k := 22) rfl)
              have z1744 := (rv_c I1701 J1734 (I1701.up h_o0) (k := 24) rfl).trans z1710
              have z1745 := (ra_call I1701 J1734 (I1701.up h_o0) (k := 5) rfl rfl rfl 44)
              have z1746 := (ra_call I1701 J1734 (I1701.up h_o0) (k := 6) rfl rfl rfl 44).trans z1711
              have z1747 := (ra_call I1701 J1734 (I1701.up h_o0) (k := 7) rfl rfl rfl ((880 + ra M0 o0 6 44).toNat)).trans z1712
              have z1748 := (ra_call I1701 J1734 (I1701.up h_o0) (k := 10) rfl rfl rfl ((880 + ra M0 o0 6 44).toNat)).trans z1713
              have z1749 := (ra_call I1701 J1734 (I1701.up h_o0) (k := 8) rfl rfl rfl ((880 + ra M0 o0 6 44).toNat)).trans z1714
              have z1750 := (ra_call I1701 J1734 (I1701.up h_o0) (k := 11) rfl rfl rfl ((880 + ra M0 o0 6 44).toNat)).trans z1715
              have E1751 : rE M0 M1731 o0 1 4 := E1716.trans f1738 (by decide) (yR.2 5 _ _ rfl 44).1 (by decide) (by decide)
              have K1752 : rK M0 M1731 o0 ((880 + ra M0 o0 6 44).toNat) := K1717.same (sA_c I1701 J1734 (I1701.up h_o0) (by decide +kernel))
              have K1753 : nN M1731 o0 := K1718.same (sA_c I1701 J1734 (I1701.up h_o0) (by decide +kernel)) (sF_c I1701 J1734 (I1701.up h_o0) (by decide +kernel))
              have F1754 : rE M1671 M1731 o0 1 1 := F1719.trans f1738 (by decide) (R1674.2 5 _ _ rfl 44).1 (by decide) (by decide)
              rw [show (59 : Int32).toInt = 59 from by decide] at f1739
              obtain ⟨s1755, e1756⟩ : ∃ s9 : p_S, p_sg pb pn 59 s1720 = s9 := ⟨_, rfl⟩
              rw [e1756] at f1739
              have := f1739.w
              clear z1710 z1711 z1712 z1713 z1714 z1715
              have q1757 := J1734.keep t1707 (by decide) q1722
              have t1758 := J1734.up t1723
              have q1759 := J1734.keep t1707 (by decide) q1724
              have t1760 := J1734.up t1725
              have q1761 := J1734.keep t1707 (by decide) q1726
              have t1762 := J1734.up t1727
              have q1763 := J1734.keep t1707 (by decide) q1728
              have t1764 := J1734.up t1729
              refine mv_aload_n d_TrustDeskModel_readRule_257 rfl rfl ?_
              obtain ⟨a1766, q1765, t_a1766⟩ := tm_atR I1735 t1740 (k := 12) rfl
              refine tr_getK q1765 d_TrustDeskModel_readRule_258 f_TrustDeskModel_41_13 ?_
              refine mv_iload_n d_TrustDeskModel_readRule_261 rfl rfl ?_
              refine mv_aload_n d_TrustDeskModel_readRule_262 rfl rfl ?_
              refine tr_getK (k := 5) q1763 d_TrustDeskModel_readRule_263 f_TrustDeskModel_20_13 ?_
              refine mv_bipush (v := 44) d_TrustDeskModel_readRule_266 (by decide) ?_
              refine tr_ialdR (o := o0) (k := 5) I1735 q1763 t1764 (by decide) d_TrustDeskModel_readRule_268 (by unfold vp_in; decide) (fun v1767 e1768 => ?_)
              have := R1737.a (k := 5) rfl (44 : Int32).toNatClampNeg
              have : v1767.toInt = ra M1731 o0 5 44 := e1768
              have : v1767.toInt = _ := Eq.trans e1768 z1745
              refine tr_iastR (k := 12) I1735 R1737 (I1735.up h_o0) q1765 t_a1766 (by decide) (by decide) (fun lo hi h => by cases h; have := R1737.1 15 _ _ rfl; have := R1737.1 16 _ _ rfl; have := R1737.1 19 _ _ rfl; exact ⟨by show (0 : Int) ≤ v1767.toInt; omega, by show v1767.toInt ≤ (400 : Int); omega⟩) (Or.inl (by decide)) d_TrustDeskModel_readRule_269 (vp_in_iff.mpr (by have := R1737.1 15 _ _ rfl; have := R1737.1 16 _ _ rfl; have := R1737.1 19 _ _ rfl; omega)) (fun M1769 I1770 K1771 R1772 E1773 A1774 V1775 => ?_)
              have z1776 := (V1775 15)
              have z1777 := (V1775 16)
              have z1778 := (V1775 17)
              have z1779 := (V1775 19)
              have z1780 := (V1775 22).trans z1743
              have z1781 := (V1775 24).trans z1744
              have z1782 := (A1774 5 (by decide) rfl 44).trans z1745
              have z1783 := (A1774 6 (by decide) rfl 44).trans z1746
              have z1784 := (A1774 7 (by decide) rfl ((880 + ra M0 o0 6 44).toNat)).trans z1747
              have z1785 := (A1774 10 (by decide) rfl ((880 + ra M0 o0 6 44).toNat)).trans z1748
              have z1786 := (A1774 8 (by decide) rfl ((880 + ra M0 o0 6 44).toNat)).trans z1749
              have z1787 := (A1774 11 (by decide) rfl ((880 + ra M0 o0 6 44).toNat)).trans z1750
              have E1788 : rE M0 M1769 o0 1 4 := E1751.same (fun k _ _ => V1775 k) (fun k h1 h2 => A1774 k (by omega) (by rcases (show k = 4 ∨ k = 5 by omega) with rfl | rfl <;> rfl))
              have h1789 : (880 + ra M0 o0 6 44).toNat = v44.toNatClampNeg := by have := mz_nat9 (i := v44) (by have := R1737.1 15 _ _ rfl; have := R1737.1 16 _ _ rfl; have := R1737.1 19 _ _ rfl; omega); have := R1737.1 15 _ _ rfl; have := R1737.1 16 _ _ rfl; have := R1737.1 19 _ _ rfl; omega
              have z1790 : ra M1769 o0 12 ((880 + ra M0 o0 6 44).toNat) = v1767.toInt := (E1773 _).trans (if_pos h1789)
              have K1791 : rK M0 M1769 o0 ((880 + ra M0 o0 6 44).toNat) := K1752.st A1774 E1773 (by have := mz_nat9 (i := v44) (by have := R1737.1 15 _ _ rfl; have := R1737.1 16 _ _ rfl; have := R1737.1 19 _ _ rfl; omega); have := R1737.1 15 _ _ rfl; have := R1737.1 16 _ _ rfl; have := R1737.1 19 _ _ rfl; omega)
              have K1792 : nN M1769 o0 := K1753.same (sA_a A1774 (by decide +kernel)) (sF_a V1775)
              have F1793 : rE M1671 M1769 o0 1 1 := F1754.same (fun k _ _ => V1775 k) (fun k h1 h2 => A1774 k (by omega) (by rcases (show k = 4 ∨ k = 5 by omega) with rfl | rfl <;> rfl))
              have Z91794 : pO M1769 o0 pb pn pa s1755 := f1739.same (fun k _ _ => V1775 k) (V1775 23) (A1774 13 (by decide) rfl)
              clear z1743 z1744 z1745 z1746 z1747 z1748 z1749 z1750
              exact mv_vret d_TrustDeskModel_readRule_270 rfl ⟨_, I1770, rfl, R1772, (rW.of E1788.1 (E1788.s yS (by decide)) (fun w9 => by have u91 : rv M1731 o0 19 = 0 := (by omega); have := f1741.o u91; have := f1742.o u91; have u92 : rv M1697 o0 19 = 0 := (by omega); have := f1708.o u92; have := f1709.o u92; have := f1705.o u92; have u93 : rv M1637 o0 19 = 0 := (by omega); have := f1647.o u93; have := f1648.o u93; have u94 : rv M38 o0 19 = 0 := (by omega); have := f54.o u94; have := f55.o u94; exact rG.step yG yR E1788 w9 K1791 (by have := yR.2 6 _ _ rfl 44; omega) (by have := R1772.1 15 _ _ rfl; have := R1772.1 16 _ _ rfl; have := R1772.1 19 _ _ rfl; omega) (by have := R1772.1 15 _ _ rfl; have := R1772.1 16 _ _ rfl; have := R1772.1 19 _ _ rfl; omega) (fun _ => rowN.of E1689 F1793 w9 (by decide) (by decide) (yR.2 5 _ _ rfl 44).1 (by have := R1772.1 15 _ _ rfl; have := R1772.1 16 _ _ rfl; have := R1772.1 19 _ _ rfl; omega) (by have := R1772.1 15 _ _ rfl; have := R1772.1 16 _ _ rfl; have := R1772.1 19 _ _ rfl; omega) (by have := R1772.1 15 _ _ rfl; have := R1772.1 16 _ _ rfl; have := R1772.1 19 _ _ rfl; omega)) (fun h9 => (by have := R1772.1 15 _ _ rfl; have := R1772.1 16 _ _ rfl; have := R1772.1 19 _ _ rfl; omega)) (by have := R1772.1 15 _ _ rfl; have := R1772.1 16 _ _ rfl; have := R1772.1 19 _ _ rfl; omega) K1792)), (rO.of E1788 K1791 (by have := yR.2 6 _ _ rfl 44; omega)), ⟨E1788.2.1, fun w9 => by skip; have := E1788.w2 w9; omega⟩, (fun w9 => by have u91 : rv M1731 o0 19 = 0 := (by omega); have := f1741.o u91; have := f1742.o u91; have u92 : rv M1697 o0 19 = 0 := (by omega); have := f1708.o u92; have := f1709.o u92; have := f1705.o u92; have u93 : rv M1637 o0 19 = 0 := (by omega); have := f1647.o u93; have := f1648.o u93; have u94 : rv M38 o0 19 = 0 := (by omega); have := f54.o u94; have := f55.o u94; omega), (by first | (have := pW0 (Im.o d800) (by omega); have := Z9799.wk; have := pW1 (Im.o d836) (by omega); rw [show p_rul pb pn pa pc9 ps = s1755 from (by unfold p_rul; unfold p_bar; (try simp only [e65, e1630, e1660, e1721, e1756]); ((repeat' (first | (with_reducible rfl) | split)) <;> (first | ((try simp only [e65, e1630, e1660, e1721, e1756]); done) | ((try simp only [e65, e1630, e1660, e1721, e1756]); first | exact p_sg_Z _ (by omega) | exact (p_sg_Z _ (by omega)).symm | omega) | (exfalso; omega))))]; exact Z91794) | (exfalso; have := R1772.1 15 _ _ rfl; have := R1772.1 16 _ _ rfl; have := R1772.1 19 _ _ rfl; omega)), (fun w9 => by have u91 : rv M1731 o0 19 = 0 := (by omega); have := f1741.o u91; have := f1742.o u91; have u92 : rv M1697 o0 19 = 0 := (by omega); have := f1708.o u92; have := f1709.o u92; have := f1705.o u92; have u93 : rv M1637 o0 19 = 0 := (by omega); have := f1647.o u93; have := f1648.o u93; have u94 : rv M38 o0 19 = 0 := (by omega); have := f54.o u94; have := f55.o u94; omega)⟩
          · refine mv_iconst (v := 0) d_TrustDeskModel_readRule_70 (by decide) ?_
            refine mv_goto (tgt := 117) d_TrustDeskModel_readRule_71 (by decide) ?_
            refine tr_iastR (k := 8) I775 R780 (I775.up h_o0) q804 t785 (by decide) (by decide) (fun lo hi h => by cases h; have e9 : (0 : Int32).toInt = 0 := (by decide); exact ⟨by show ((-1) : Int) ≤ (0 : Int32).toInt; omega, by show (0 : Int32).toInt ≤ (720 : Int); omega⟩) (Or.inl (by decide)) d_TrustDeskModel_readRule_117 (vp_in_iff.mpr (by have := R780.1 15 _ _ rfl; have := R780.1 16 _ _ rfl; have := R780.1 19 _ _ rfl; omega)) (fun M1795 I1796 K1797 R1798 E1799 A1800 V1801 => ?_)
            have z1802 := (V1801 15).trans z786
            have z1803 := (V1801 16).trans z787
            have z1804 := (V1801 17).trans z788
            have z1805 := (V1801 19).trans z789
            have z1806 := (V1801 22).trans z790
            have z1807 := (V1801 24).trans z791
            have z1808 := (A1800 5 (by decide) rfl 44).trans z792
            have z1809 := (A1800 6 (by decide) rfl 44).trans z793
            have z1810 := (A1800 7 (by decide) rfl ((880 + ra M0 o0 6 44).toNat)).trans z794
            have z1811 := (A1800 10 (by decide) rfl ((880 + ra M0 o0 6 44).toNat)).trans z795
            have E1812 : rE M0 M1795 o0 0 1 := E796.same (fun k _ _ => V1801 k) (fun k h1 h2 => A1800 k (by omega) (by rcases (show k = 4 ∨ k = 5 by omega) with rfl | rfl <;> rfl))
            have h1813 : (880 + ra M0 o0 6 44).toNat = v44.toNatClampNeg := by have := mz_nat9 (i := v44) (by have := R780.1 15 _ _ rfl; have := R780.1 16 _ _ rfl; have := R780.1 19 _ _ rfl; omega); have := R780.1 15 _ _ rfl; have := R780.1 16 _ _ rfl; have := R780.1 19 _ _ rfl; omega
            have z1814 : ra M1795 o0 8 ((880 + ra M0 o0 6 44).toNat) = 0 := (E1799 _).trans (if_pos h1813)
            have K1815 : rK M0 M1795 o0 ((880 + ra M0 o0 6 44).toNat) := K797.st A1800 E1799 (by have := mz_nat9 (i := v44) (by have := R780.1 15 _ _ rfl; have := R780.1 16 _ _ rfl; have := R780.1 19 _ _ rfl; omega); have := R780.1 15 _ _ rfl; have := R780.1 16 _ _ rfl; have := R780.1 19 _ _ rfl; omega)
            have K1816 : nN M1795 o0 := K798.same (sA_a A1800 (by decide +kernel)) (sF_a V1801)
            have Z91817 : pO M1795 o0 pb pn pa s64 := Z9799.same (fun k _ _ => V1801 k) (V1801 23) (A1800 13 (by decide) rfl)
            clear z786 z787 z788 z790 z791 z792 z793 z794 z795
            refine mv_aload_n d_TrustDeskModel_readRule_118 rfl rfl ?_
            refine tr_getK (k := 8) (K1797 _ 13 8 _ q804) d_TrustDeskModel_readRule_119 f_TrustDeskModel_29_13 ?_
            refine mv_iload_n d_TrustDeskModel_readRule_122 rfl rfl ?_
            refine tr_ialdR (o := o0) (k := 8) I1796 (K1797 _ 13 8 _ q804) t785 (by decide) d_TrustDeskModel_readRule_123 (vp_in_iff.mpr (by have := R1798.1 15 _ _ rfl; have := R1798.1 16 _ _ rfl; have := R1798.1 19 _ _ rfl; omega)) (fun v1818 e1819 => ?_)
            have := R1798.a (k := 8) rfl (v44 : Int32).toNatClampNeg
            have h1820 : (880 + ra M0 o0 6 44).toNat = v44.toNatClampNeg := by have := mz_nat9 (i := v44) (by have := R1798.1 15 _ _ rfl; have := R1798.1 16 _ _ rfl; have := R1798.1 19 _ _ rfl; omega); have := R1798.1 15 _ _ rfl; have := R1798.1 16 _ _ rfl; have := R1798.1 19 _ _ rfl; omega
            have z1821 : v1818.toInt = ra M1795 o0 8 ((880 + ra M0 o0 6 44).toNat) := by rw [e1819, h1820]
            have : v1818.toInt = _ := Eq.trans z1821 z1814
            refine mv_iconst (v := (-1)) d_TrustDeskModel_readRule_124 (by decide) ?_
            have := mz_hi v1818
            refine mv_icmp_neZ (tgt := 133) (a := v1818.toInt) (b := (-1)) d_TrustDeskModel_readRule_125 (by decide) rfl (by decide) (fun b1822 => ?_) (fun b1822 => absurd b1822 (by omega))
            refine mv_aload_n d_TrustDeskModel_readRule_133 rfl rfl ?_
            obtain ⟨_, b1823, -⟩ := I1796.1 _ _ t784
            refine mv_callV (kc1 := 0) (ks1 := 0) (kc' := 0) (ks' := 0) (As := []) (st9 := [.ref o0]) d_TrustDeskModel_readRule_134 lV_TrustDeskModel_230 b1823 rfl (mj_enter (by decide) (Nat.le_of_ble_eq_true rfl) ?_) rfl (Nat.le_of_ble_eq_true rfl) (Nat.le_of_ble_eq_true rfl) (Nat.le_of_ble_eq_true rfl) (hst := rfl) (fun _ _ _ h => h)
            refine mv_aload_n d_TrustDeskModel_isWell_0 rfl rfl ?_
            refine tr_getK (k := 19) (K1797 _ 13 19 _ q803) d_TrustDeskModel_isWell_1 f_TrustDeskModel_224_13 ?_
            have := mz_hi v35
            refine mv_if_neZ (tgt := 11) (a := v35.toInt) d_TrustDeskModel_isWell_4 (by decide) rfl (fun b1824 => absurd b1824 (by omega)) (fun b1824 => ?_)
            refine mv_iconst (v := 1) d_TrustDeskModel_isWell_7 (by decide) ?_
            refine mv_goto (tgt := 12) d_TrustDeskModel_isWell_8 (by decide) ?_
            refine mv_iret d_TrustDeskModel_isWell_12 rfl (by decide) ?_
            refine mv_if_eq_f (tgt := 144) d_TrustDeskModel_readRule_137 (by decide) (by decide) ?_
            refine mv_aload_n d_TrustDeskModel_readRule_140 rfl rfl ?_
            obtain ⟨_, b1831, -⟩ := I1796.1 _ _ t784
            refine mv_callV (kc' := 0) (ks' := 0) (As := []) (st9 := [.ref o0]) d_TrustDeskModel_readRule_141 lV_TrustDeskModel_237 b1831 rfl (tc_TrustDeskModel_next_x (d := (d + 23)) (x9 := x9) (o0 := o0) t784 R1798 Z91817.p I1796.start) rfl (Nat.le_of_ble_eq_true rfl) (Nat.le_of_ble_eq_true rfl) (Nat.le_of_ble_eq_true rfl) (hst := rfl) (fun b1825r M1826 n1827 b1825 => ?_)
            obtain ⟨T1828, J1829, rfl, R1832, f1833, f1834, f1835⟩ := b1825
            have I1830 := I1796.call J1829 (tm_sub (by decide)) (Or.inl rfl)
            have t1836 := J1829.up t784
            have z1837 := (rv_c I1796 J1829 (I1796.up h_o0) (k := 19) rfl).trans z1805
            have z1838 := (rv_c I1796 J1829 (I1796.up h_o0) (k := 22) rfl).trans z1806
            have z1839 := (rv_c I1796 J1829 (I1796.up h_o0) (k := 24) rfl).trans z1807
            have z1840 := (ra_call I1796 J1829 (I1796.up h_o0) (k := 5) rfl rfl rfl 44).trans z1808
            have z1841 := (ra_call I1796 J1829 (I1796.up h_o0) (k := 6) rfl rfl rfl 44).trans z1809
            have z1842 := (ra_call I1796 J1829 (I1796.up h_o0) (k := 7) rfl rfl rfl ((880 + ra M0 o0 6 44).toNat)).trans z1810
            have z1843 := (ra_call I1796 J1829 (I1796.up h_o0) (k := 10) rfl rfl rfl ((880 + ra M0 o0 6 44).toNat)).trans z1811
            have z1844 := (ra_call I1796 J1829 (I1796.up h_o0) (k := 8) rfl rfl rfl ((880 + ra M0 o0 6 44).toNat)).trans z1814
            have h1846 : rv M1795 o0 16 + 1 ≤ rv M1795 o0 15 := (by have := f781.o (by omega); have := E1812.1.2.1 (by omega); omega)
            have E1845 : rE M0 M1826 o0 0 2 := E1812.next f1833 f1834 (rv_c I1796 J1829 (I1796.up h_o0) (k := 19) rfl) (rE_ha I1796 J1829 (I1796.up h_o0) (by decide)) (e := 1) h1846 (by decide)
            have K1847 : rK M0 M1826 o0 ((880 + ra M0 o0 6 44).toNat) := K1815.same (sA_c I1796 J1829 (I1796.up h_o0) (by decide +kernel))
            have K1848 : nN M1826 o0 := K1816.same (sA_c I1796 J1829 (I1796.up h_o0) (by decide +kernel)) (sF_c I1796 J1829 (I1796.up h_o0) (by decide +kernel))
            obtain ⟨s1849, e1850⟩ : ∃ s9 : p_S, p_nx s64 = s9 := ⟨_, rfl⟩
            rw [e1850] at f1835
            have := f1835.w
            clear z1806 z1807 z1808 z1809 z1810 z1811 z1814
            have q1851 := J1829.keep t784 (by decide) (K1797 _ 13 6 _ q801)
            have t1852 := J1829.up t802
            have q1853 := J1829.keep t784 (by decide) (K1797 _ 13 19 _ q803)
            have q1854 := J1829.keep t784 (by decide) (K1797 _ 13 8 _ q804)
            have t1855 := J1829.up t785
            refine mv_aload_n d_TrustDeskModel_readRule_144 rfl rfl ?_
            refine mv_ldcSw (id := 25) (tx := "if") d_TrustDeskModel_readRule_145 (List.mem_of_getElem? (i := 15) rfl) ?_
            obtain ⟨_, b1862, -⟩ := I1830.1 _ _ t1836
            refine mv_callV (kc' := 0) (ks' := 0) (As := [.ref 25]) (st9 := [.ref 25, .ref o0]) d_TrustDeskModel_readRule_148 lV_TrustDeskModel_329 b1862 rfl (tc_TrustDeskModel_wantWord_s1_25_x (d := (d + 19)) (x9 := x9) (o0 := o0) t1836 R1832 E1845.1 (E1845.s yS (by decide)) f1835 I1830.start) rfl (Nat.le_of_ble_eq_true rfl) (Nat.le_of_ble_eq_true rfl) (Nat.le_of_ble_eq_true rfl) (hst := rfl) (fun b1856r M1857 n1858 b1856 => ?_)
            obtain ⟨T1859, J1860, rfl, R1863, f1864, f1865⟩ := b1856
            have I1861 := I1830.call J1860 (tm_sub (by decide)) (Or.inl rfl)
            have t1866 := J1860.up t1836
            have := f1864.2.1
            have f1867 := Im.i f1864.w.2
            have f1868 := Im.i f1864.w2
            have z1869 := (rv_c I1830 J1860 (I1830.up h_o0) (k := 22) rfl).trans z1838
            have z1870 := (rv_c I1830 J1860 (I1830.up h_o0) (k := 24) rfl).trans z1839
            have z1871 := (ra_call I1830 J1860 (I1830.up h_o0) (k := 5) rfl rfl rfl 44).trans z1840
            have z1872 := (ra_call I1830 J1860 (I1830.up h_o0) (k := 6) rfl rfl rfl 44).trans z1841
            have z1873 := (ra_call I1830 J1860 (I1830.up h_o0) (k := 7) rfl rfl rfl ((880 + ra M0 o0 6 44).toNat)).trans z1842
            have z1874 := (ra_call I1830 J1860 (I1830.up h_o0) (k := 10) rfl rfl rfl ((880 + ra M0 o0 6 44).toNat)).trans z1843
            have z1875 := (ra_call I1830 J1860 (I1830.up h_o0) (k := 8) rfl rfl rfl ((880 + ra M0 o0 6 44).toNat)).trans z1844
            have E1876 : rE M0 M1857 o0 0 3 := E1845.trans f1864 (by decide) (yR.2 5 _ _ rfl 44).1 (by decide) (by decide)
            have K1877 : rK M0 M1857 o0 ((880 + ra M0 o0 6 44).toNat) := K1847.same (sA_c I1830 J1860 (I1830.up h_o0) (by decide +kernel))
            have K1878 : nN M1857 o0 := K1848.same (sA_c I1830 J1860 (I1830.up h_o0) (by decide +kernel)) (sF_c I1830 J1860 (I1830.up h_o0) (by decide +kernel))
            obtain ⟨s1879, e1880⟩ : ∃ s9 : p_S, p_wd pb pn 28 s1849 = s9 := ⟨_, rfl⟩
            rw [e1880] at f1865
            have := f1865.w
            clear z1838 z1839 z1840 z1841 z1842 z1843 z1844
            have q1881 := J1860.keep t1836 (by decide) q1851
            have t1882 := J1860.up t1852
            have q1883 := J1860.keep t1836 (by decide) q1854
            have t1884 := J1860.up t1855
            refine mv_aload_n d_TrustDeskModel_readRule_151 rfl rfl ?_
            obtain ⟨a1886, q1885, t_a1886⟩ := tm_atR I1861 t1866 (k := 11) rfl
            refine tr_getK q1885 d_TrustDeskModel_readRule_152 f_TrustDeskModel_38_13 ?_
            refine mv_iload_n d_TrustDeskModel_readRule_155 rfl rfl ?_
            refine mv_aload_n d_TrustDeskModel_readRule_156 rfl rfl ?_
            obtain ⟨a1888, q1887, t_a1888⟩ := tm_atR I1861 t1866 (k := 5) rfl
            refine tr_getK q1887 d_TrustDeskModel_readRule_157 f_TrustDeskModel_20_13 ?_
            refine mv_bipush (v := 44) d_TrustDeskModel_readRule_160 (by decide) ?_
            refine tr_ialdR (o := o0) (k := 5) I1861 q1887 t_a1888 (by decide) d_TrustDeskModel_readRule_162 (by unfold vp_in; decide) (fun v1889 e1890 => ?_)
            have := R1863.a (k := 5) rfl (44 : Int32).toNatClampNeg
            have : v1889.toInt = ra M1857 o0 5 44 := e1890
            have : v1889.toInt = _ := Eq.trans e1890 z1871
            refine tr_iastR (k := 11) I1861 R1863 (I1861.up h_o0) q1885 t_a1886 (by decide) (by decide) (fun lo hi h => by cases h; have := R1863.1 15 _ _ rfl; have := R1863.1 16 _ _ rfl; have := R1863.1 19 _ _ rfl; exact ⟨by show (0 : Int) ≤ v1889.toInt; omega, by show v1889.toInt ≤ (400 : Int); omega⟩) (Or.inl (by decide)) d_TrustDeskModel_readRule_163 (vp_in_iff.mpr (by have := R1863.1 15 _ _ rfl; have := R1863.1 16 _ _ rfl; have := R1863.1 19 _ _ rfl; omega)) (fun M1891 I1892 K1893 R1894 E1895 A1896 V1897 => ?_)
            have z1898 := (V1897 15)
            have z1899 := (V1897 16)
            have z1900 := (V1897 17)
            have z1901 := (V1897 19)
            have z1902 := (V1897 22).trans z1869
            have z1903 := (V1897 24).trans z1870
            have z1904 := (A1896 5 (by decide) rfl 44).trans z1871
            have z1905 := (A1896 6 (by decide) rfl 44).trans z1872
            have z1906 := (A1896 7 (by decide) rfl ((880 + ra M0 o0 6 44).toNat)).trans z1873
            have z1907 := (A1896 10 (by decide) rfl ((880 + ra M0 o0 6 44).toNat)).trans z1874
            have z1908 := (A1896 8 (by decide) rfl ((880 + ra M0 o0 6 44).toNat)).trans z1875
            have E1909 : rE M0 M1891 o0 0 3 := E1876.same (fun k _ _ => V1897 k) (fun k h1 h2 => A1896 k (by omega) (by rcases (show k = 4 ∨ k = 5 by omega) with rfl | rfl <;> rfl))
            have h1910 : (880 + ra M0 o0 6 44).toNat = v44.toNatClampNeg := by have := mz_nat9 (i := v44) (by have := R1863.1 15 _ _ rfl; have := R1863.1 16 _ _ rfl; have := R1863.1 19 _ _ rfl; omega); have := R1863.1 15 _ _ rfl; have := R1863.1 16 _ _ rfl; have := R1863.1 19 _ _ rfl; omega
            have z1911 : ra M1891 o0 11 ((880 + ra M0 o0 6 44).toNat) = v1889.toInt := (E1895 _).trans (if_pos h1910)
            have K1912 : rK M0 M1891 o0 ((880 + ra M0 o0 6 44).toNat) := K1877.st A1896 E1895 (by have := mz_nat9 (i := v44) (by have := R1863.1 15 _ _ rfl; have := R1863.1 16 _ _ rfl; have := R1863.1 19 _ _ rfl; omega); have := R1863.1 15 _ _ rfl; have := R1863.1 16 _ _ rfl; have := R1863.1 19 _ _ rfl; omega)
            have K1913 : nN M1891 o0 := K1878.same (sA_a A1896 (by decide +kernel)) (sF_a V1897)
            have F1914 : rE M1891 M1891 o0 0 0 := rE.rf E1909.1
            have : ra M1891 o0 5 44 = v1889.toInt := by omega
            have Z91915 : pO M1891 o0 pb pn pa s1879 := f1865.same (fun k _ _ => V1897 k) (V1897 23) (A1896 13 (by decide) rfl)
            clear z1869 z1870 z1871 z1872 z1873 z1874 z1875
            refine mv_aload_n d_TrustDeskModel_readRule_164 rfl rfl ?_
            obtain ⟨_, b1922, -⟩ := I1892.1 _ _ t1866
            refine mv_callV (kc' := 0) (ks' := 0) (As := []) (st9 := [.ref o0]) d_TrustDeskModel_readRule_165 lV_TrustDeskModel_302 b1922 rfl (tc_TrustDeskModel_cond_q5_x (d := d) (x9 := x9) (o0 := o0) t1866 R1894 E1909.1 (E1909.s yS (by decide)) (Classical.byCases (fun w9 : rv M1891 o0 19 = 0 => by have u91 : rv M1857 o0 19 = 0 := (by omega); have := f1867.o u91; have := f1868.o u91; have u92 : rv M38 o0 19 = 0 := (by omega); have := f54.o u92; have := f55.o u92; omega) (fun w9 : ¬ rv M1891 o0 19 = 0 => by omega)) Z91915 I1892.start) rfl (Nat.le_of_ble_eq_true rfl) (Nat.le_of_ble_eq_true rfl) (Nat.le_of_ble_eq_true rfl) (hst := rfl) (fun b1916r M1917 n1918 b1916 => ?_)
            obtain ⟨T1919, J1920, rfl, R1923, f1924, f1925, f1926⟩ := b1916
            have I1921 := I1892.call J1920 (tm_sub (by decide)) (Or.inl rfl)
            have t1927 := J1920.up t1866
            have := f1924.2.1
            have f1928 := Im.i f1924.w.2
            have f1929 := Im.i f1924.w2
            replace f1925 := Im.i f1925
            have z1930 := (rv_c I1892 J1920 (I1892.up h_o0) (k := 24) rfl).trans z1903
            have z1931 := (ra_call I1892 J1920 (I1892.up h_o0) (k := 6) rfl rfl rfl 44).trans z1905
            have z1932 := (ra_call I1892 J1920 (I1892.up h_o0) (k := 7) rfl rfl rfl ((880 + ra M0 o0 6 44).toNat)).trans z1906
            have z1933 := (ra_call I1892 J1920 (I1892.up h_o0) (k := 10) rfl rfl rfl ((880 + ra M0 o0 6 44).toNat)).trans z1907
            have z1934 := (ra_call I1892 J1920 (I1892.up h_o0) (k := 8) rfl rfl rfl ((880 + ra M0 o0 6 44).toNat)).trans z1908
            have z1935 := (ra_call I1892 J1920 (I1892.up h_o0) (k := 11) rfl rfl rfl ((880 + ra M0 o0 6 44).toNat)).trans z1911
            have E1936 : rE M0 M1917 o0 1 3 := E1909.trans f1924 (by decide) (yR.2 5 _ _ rfl 44).1 (by decide) (by decide)
            have K1937 : rK M0 M1917 o0 ((880 + ra M0 o0 6 44).toNat) := K1912.same (sA_c I1892 J1920 (I1892.up h_o0) (by decide +kernel))
            have K1938 : nN M1917 o0 := K1913.same (sA_c I1892 J1920 (I1892.up h_o0) (by decide +kernel)) (sF_c I1892 J1920 (I1892.up h_o0) (by decide +kernel))
            have F1939 : rE M1891 M1917 o0 1 0 := F1914.trans f1924 (by decide) (R1894.2 5 _ _ rfl 44).1 (by decide) (by decide)
            obtain ⟨s1940, e1941⟩ : ∃ s9 : p_S, p_con pb pn pa 4 (p_oc pb pn pa 4) s1879 = s9 := ⟨_, rfl⟩
            rw [e1941] at f1926
            have := f1926.w
            clear z1903 z1905 z1906 z1907 z1908 z1911
            have q1942 := J1920.keep t1866 (by decide) (K1893 _ 13 6 _ q1881)
            have t1943 := J1920.up t1882
            have q1944 := J1920.keep t1866 (by decide) (K1893 _ 13 8 _ q1883)
            have t1945 := J1920.up t1884
            have q1946 := J1920.keep t1866 (by decide) (K1893 _ 13 11 _ q1885)
            have t1947 := J1920.up t_a1886
            have q1948 := J1920.keep t1866 (by decide) (K1893 _ 13 5 _ q1887)
            have t1949 := J1920.up t_a1888
            refine mv_goto (tgt := 251) d_TrustDeskModel_readRule_168 (by decide) ?_
            refine mv_aload_n d_TrustDeskModel_readRule_251 rfl rfl ?_
            refine mv_bipush (v := 59) d_TrustDeskModel_readRule_252 (by decide) ?_
            obtain ⟨_, b1956, -⟩ := I1921.1 _ _ t1927
            have : (59 : Int32).toInt = 59 := by decide
            refine mv_callV (kc' := 0) (ks' := 0) (As := [.int 59]) (st9 := [.int 59, .ref o0]) d_TrustDeskModel_readRule_254 lV_TrustDeskModel_291 b1956 rfl (tc_TrustDeskModel_wantSign_x (d := (d + 22)) (x9 := x9) (o0 := o0) (x1 := 59) t1927 R1923 E1936.1 (E1936.s yS (by decide)) (by decide) f1926 I1921.start) rfl (Nat.le_of_ble_eq_true rfl) (Nat.le_of_ble_eq_true rfl) (Nat.le_of_ble_eq_true rfl) (hst := rfl) (fun b1950r M1951 n1952 b1950 => ?_)
            obtain ⟨T1953, J1954, rfl, R1957, f1958, f1959⟩ := b1950
            have I1955 := I1921.call J1954 (tm_sub (by decide)) (Or.inl rfl)
            have t1960 := J1954.up t1927
            have := f1958.2.1
            have f1961 := Im.i f1958.w.2
            have f1962 := Im.i f1958.w2
            have z1963 := (rv_c I1921 J1954 (I1921.up h_o0) (k := 22) rfl)
            have z1964 := (rv_c I1921 J1954 (I1921.up h_o0) (k := 24) rfl).trans z1930
            have z1965 := (ra_call I1921 J1954 (I1921.up h_o0) (k := 5) rfl rfl rfl 44)
            have z1966 := (ra_call I1921 J1954 (I1921.up h_o0) (k := 6) rfl rfl rfl 44).trans z1931
            have z1967 := (ra_call I1921 J1954 (I1921.up h_o0) (k := 7) rfl rfl rfl ((880 + ra M0 o0 6 44).toNat)).trans z1932
            have z1968 := (ra_call I1921 J1954 (I1921.up h_o0) (k := 10) rfl rfl rfl ((880 + ra M0 o0 6 44).toNat)).trans z1933
            have z1969 := (ra_call I1921 J1954 (I1921.up h_o0) (k := 8) rfl rfl rfl ((880 + ra M0 o0 6 44).toNat)).trans z1934
            have z1970 := (ra_call I1921 J1954 (I1921.up h_o0) (k := 11) rfl rfl rfl ((880 + ra M0 o0 6 44).toNat)).trans z1935
            have E1971 : rE M0 M1951 o0 1 4 := E1936.trans f1958 (by decide) (yR.2 5 _ _ rfl 44).1 (by decide) (by decide)
            have K1972 : rK M0 M1951 o0 ((880 + ra M0 o0 6 44).toNat) := K1937.same (sA_c I1921 J1954 (I1921.up h_o0) (by decide +kernel))
            have K1973 : nN M1951 o0 := K1938.same (sA_c I1921 J1954 (I1921.up h_o0) (by decide +kernel)) (sF_c I1921 J1954 (I1921.up h_o0) (by decide +kernel))
            have F1974 : rE M1891 M1951 o0 1 1 := F1939.trans f1958 (by decide) (R1894.2 5 _ _ rfl 44).1 (by decide) (by decide)
            rw [show (59 : Int32).toInt = 59 from by decide] at f1959
            obtain ⟨s1975, e1976⟩ : ∃ s9 : p_S, p_sg pb pn 59 s1940 = s9 := ⟨_, rfl⟩
            rw [e1976] at f1959
            have := f1959.w
            clear z1930 z1931 z1932 z1933 z1934 z1935
            have q1977 := J1954.keep t1927 (by decide) q1942
            have t1978 := J1954.up t1943
            have q1979 := J1954.keep t1927 (by decide) q1944
            have t1980 := J1954.up t1945
            have q1981 := J1954.keep t1927 (by decide) q1946
            have t1982 := J1954.up t1947
            have q1983 := J1954.keep t1927 (by decide) q1948
            have t1984 := J1954.up t1949
            refine mv_aload_n d_TrustDeskModel_readRule_257 rfl rfl ?_
            obtain ⟨a1986, q1985, t_a1986⟩ := tm_atR I1955 t1960 (k := 12) rfl
            refine tr_getK q1985 d_TrustDeskModel_readRule_258 f_TrustDeskModel_41_13 ?_
            refine mv_iload_n d_TrustDeskModel_readRule_261 rfl rfl ?_
            refine mv_aload_n d_TrustDeskModel_readRule_262 rfl rfl ?_
            refine tr_getK (k := 5) q1983 d_TrustDeskModel_readRule_263 f_TrustDeskModel_20_13 ?_
            refine mv_bipush (v := 44) d_TrustDeskModel_readRule_266 (by decide) ?_
            refine tr_ialdR (o := o0) (k := 5) I1955 q1983 t1984 (by decide) d_TrustDeskModel_readRule_268 (by unfold vp_in; decide) (fun v1987 e1988 => ?_)
            have := R1957.a (k := 5) rfl (44 : Int32).toNatClampNeg
            have : v1987.toInt = ra M1951 o0 5 44 := e1988
            have : v1987.toInt = _ := Eq.trans e1988 z1965
            refine tr_iastR (k := 12) I1955 R1957 (I1955.up h_o0) q1985 t_a1986 (by decide) (by decide) (fun lo hi h => by cases h; have := R1957.1 15 _ _ rfl; have := R1957.1 16 _ _ rfl; have := R1957.1 19 _ _ rfl; exact ⟨by show (0 : Int) ≤ v1987.toInt; omega, by show v1987.toInt ≤ (400 : Int); omega⟩) (Or.inl (by decide)) d_TrustDeskModel_readRule_269 (vp_in_iff.mpr (by have := R1957.1 15 _ _ rfl; have := R1957.1 16 _ _ rfl; have := R1957.1 19 _ _ rfl; omega)) (fun M1989 I1990 K1991 R1992 E1993 A1994 V1995 => ?_)
            have z1996 := (V1995 15)
            have z1997 := (V1995 16)
            have z1998 := (V1995 17)
            have z1999 := (V1995 19)
            have z2000 := (V1995 22).trans z1963
            have z2001 := (V1995 24).trans z1964
            have z2002 := (A1994 5 (by decide) rfl 44).trans z1965
            have z2003 := (A1994 6 (by decide) rfl 44).trans z1966
            have z2004 := (A1994 7 (by decide) rfl ((880 + ra M0 o0 6 44).toNat)).trans z1967
            have z2005 := (A1994 10 (by decide) rfl ((880 + ra M0 o0 6 44).toNat)).trans z1968
            have z2006 := (A1994 8 (by decide) rfl ((880 + ra M0 o0 6 44).toNat)).trans z1969
            have z2007 := (A1994 11 (by decide) rfl ((880 + ra M0 o0 6 44).toNat)).trans z1970
            have E2008 : rE M0 M1989 o0 1 4 := E1971.same (fun k _ _ => V1995 k) (fun k h1 h2 => A1994 k (by omega) (by rcases (show k = 4 ∨ k = 5 by omega) with rfl | rfl <;> rfl))
            have h2009 : (880 + ra M0 o0 6 44).toNat = v44.toNatClampNeg := by have := mz_nat9 (i := v44) (by have := R1957.1 15 _ _ rfl; have := R1957.1 16 _ _ rfl; have := R1957.1 19 _ _ rfl; omega); have := R1957.1 15 _ _ rfl; have := R1957.1 16 _ _ rfl; have := R1957.1 19 _ _ rfl; omega
            have z2010 : ra M1989 o0 12 ((880 + ra M0 o0 6 44).toNat) = v1987.toInt := (E1993 _).trans (if_pos h2009)
            have K2011 : rK M0 M1989 o0 ((880 + ra M0 o0 6 44).toNat) := K1972.st A1994 E1993 (by have := mz_nat9 (i := v44) (by have := R1957.1 15 _ _ rfl; have := R1957.1 16 _ _ rfl; have := R1957.1 19 _ _ rfl; omega); have := R1957.1 15 _ _ rfl; have := R1957.1 16 _ _ rfl; have := R1957.1 19 _ _ rfl; omega)
            have K2012 : nN M1989 o0 := K1973.same (sA_a A1994 (by decide +kernel)) (sF_a V1995)
            have F2013 : rE M1891 M1989 o0 1 1 := F1974.same (fun k _ _ => V1995 k) (fun k h1 h2 => A1994 k (by omega) (by rcases (show k = 4 ∨ k = 5 by omega) with rfl | rfl <;> rfl))
            have Z92014 : pO M1989 o0 pb pn pa s1975 := f1959.same (fun k _ _ => V1995 k) (V1995 23) (A1994 13 (by decide) rfl)
            clear z1963 z1964 z1965 z1966 z1967 z1968 z1969 z1970
            exact mv_vret d_TrustDeskModel_readRule_270 rfl ⟨_, I1990, rfl, R1992, (rW.of E2008.1 (E2008.s yS (by decide)) (fun w9 => by have u91 : rv M1951 o0 19 = 0 := (by omega); have := f1961.o u91; have := f1962.o u91; have u92 : rv M1917 o0 19 = 0 := (by omega); have := f1928.o u92; have := f1929.o u92; have := f1925.o u92; have u93 : rv M1857 o0 19 = 0 := (by omega); have := f1867.o u93; have := f1868.o u93; have u94 : rv M38 o0 19 = 0 := (by omega); have := f54.o u94; have := f55.o u94; exact rG.step yG yR E2008 w9 K2011 (by have := yR.2 6 _ _ rfl 44; omega) (by have := R1992.1 15 _ _ rfl; have := R1992.1 16 _ _ rfl; have := R1992.1 19 _ _ rfl; omega) (by have := R1992.1 15 _ _ rfl; have := R1992.1 16 _ _ rfl; have := R1992.1 19 _ _ rfl; omega) (fun _ => rowN.of E1909 F2013 w9 (by decide) (by decide) (yR.2 5 _ _ rfl 44).1 (by have := R1992.1 15 _ _ rfl; have := R1992.1 16 _ _ rfl; have := R1992.1 19 _ _ rfl; omega) (by have := R1992.1 15 _ _ rfl; have := R1992.1 16 _ _ rfl; have := R1992.1 19 _ _ rfl; omega) (by have := R1992.1 15 _ _ rfl; have := R1992.1 16 _ _ rfl; have := R1992.1 19 _ _ rfl; omega)) (fun h9 => (by have := R1992.1 15 _ _ rfl; have := R1992.1 16 _ _ rfl; have := R1992.1 19 _ _ rfl; omega)) (by have := R1992.1 15 _ _ rfl; have := R1992.1 16 _ _ rfl; have := R1992.1 19 _ _ rfl; omega) K2012)), (rO.of E2008 K2011 (by have := yR.2 6 _ _ rfl 44; omega)), ⟨E2008.2.1, fun w9 => by skip; have := E2008.w2 w9; omega⟩, (fun w9 => by have u91 : rv M1951 o0 19 = 0 := (by omega); have := f1961.o u91; have := f1962.o u91; have u92 : rv M1917 o0 19 = 0 := (by omega); have := f1928.o u92; have := f1929.o u92; have := f1925.o u92; have u93 : rv M1857 o0 19 = 0 := (by omega); have := f1867.o u93; have := f1868.o u93; have u94 : rv M38 o0 19 = 0 := (by omega); have := f54.o u94; have := f55.o u94; omega), (by first | (have := pW1 (Im.o d800) (by omega); have := Z9799.wk; rw [show p_rul pb pn pa pc9 ps = s1975 from (by unfold p_rul; unfold p_bar; (try simp only [e65, e1850, e1880, e1941, e1976]); ((repeat' (first | (with_reducible rfl) | split)) <;> (first | ((try simp only [e65, e1850, e1880, e1941, e1976]); done) | ((try simp only [e65, e1850, e1880, e1941, e1976]); first | exact p_sg_Z _ (by omega) | exact (p_sg_Z _ (by omega)).symm | omega) | (exfalso; omega))))]; exact Z92014) | (exfalso; have := R1992.1 15 _ _ rfl; have := R1992.1 16 _ _ rfl; have := R1992.1 19 _ _ rfl; omega)), (fun w9 => by have u91 : rv M1951 o0 19 = 0 := (by omega); have := f1961.o u91; have := f1962.o u91; have u92 : rv M1917 o0 19 = 0 := (by omega); have := f1928.o u92; have := f1929.o u92; have := f1925.o u92; have u93 : rv M1857 o0 19 = 0 := (by omega); have := f1867.o u93; have := f1868.o u93; have u94 : rv M38 o0 19 = 0 := (by omega); have := f54.o u94; have := f55.o u94; omega)⟩
    · refine mv_aload_n d_TrustDeskModel_readRule_30 rfl rfl ?_
      refine mv_iconst (v := 4) d_TrustDeskModel_readRule_31 (by decide) ?_
      obtain ⟨_, b2021, -⟩ := I8.1 _ _ t14
      have : (4 : Int32).toInt = 4 := by decide
      refine mv_callV (kc' := 0) (ks' := 0) (As := [.int 4]) (st9 := [.int 4, .ref o0]) d_TrustDeskModel_readRule_32 lV_TrustDeskModel_240 b2021 rfl (tc_TrustDeskModel_fails_x (d := (d + 24)) (x9 := x9) (o0 := o0) (x1 := 4) t14 R11 (by decide) Z926 I8.start) rfl (Nat.le_of_ble_eq_true rfl) (Nat.le_of_ble_eq_true rfl) (Nat.le_of_ble_eq_true rfl) (hst := rfl) (fun b2015r M2016 n2017 b2015 => ?_)
      obtain ⟨T2018, J2019, rfl, R2022, f2023, f2024⟩ := b2015
      have I2020 := I8.call J2019 (tm_sub (by decide)) (Or.inl rfl)
      have t2025 := J2019.up t14
      have z2026 := (rv_c I8 J2019 (I8.up h_o0) (k := 15) rfl).trans z15
      have z2027 := (rv_c I8 J2019 (I8.up h_o0) (k := 16) rfl).trans z16
      have z2028 := (rv_c I8 J2019 (I8.up h_o0) (k := 17) rfl).trans z17
      have z2029 := (rv_c I8 J2019 (I8.up h_o0) (k := 22) rfl).trans z19
      have z2030 := (rv_c I8 J2019 (I8.up h_o0) (k := 24) rfl).trans z20
      have z2031 := (ra_call I8 J2019 (I8.up h_o0) (k := 5) rfl rfl rfl 44).trans z21
      have z2032 := (ra_call I8 J2019 (I8.up h_o0) (k := 6) rfl rfl rfl 44).trans z22
      have E2033 : rE M0 M2016 o0 0 0 := E23.fails (rE_hv I8 J2019 (I8.up h_o0) 15 18 (by decide)) (rE_ha I8 J2019 (I8.up h_o0) (by decide)) f2023 0 0
      have K2034 : rK M0 M2016 o0 ((880 + ra M0 o0 6 44).toNat) := K24.same (sA_c I8 J2019 (I8.up h_o0) (by decide +kernel))
      have K2035 : nN M2016 o0 := K25.same (sA_c I8 J2019 (I8.up h_o0) (by decide +kernel)) (sF_c I8 J2019 (I8.up h_o0) (by decide +kernel))
      rw [show (4 : Int32).toInt = 4 from by decide] at f2024
      obtain ⟨s2036, e2037⟩ : ∃ s9 : p_S, p_fl pb pn 4 ps = s9 := ⟨_, rfl⟩
      rw [e2037] at f2024
      have := f2024.w
      clear z15 z16 z17 z19 z20 z21 z22
      have q2038 := J2019.keep t14 (by decide) q28
      have t2039 := J2019.up t_a29
      refine mv_aload_n d_TrustDeskModel_readRule_35 rfl rfl ?_
      obtain ⟨_, b2040, -⟩ := I2020.1 _ _ t2025
      refine mv_callV (kc1 := 0) (ks1 := 0) (kc' := 0) (ks' := 0) (As := []) (st9 := [.ref o0]) d_TrustDeskModel_readRule_36 lV_TrustDeskModel_230 b2040 rfl (mj_enter (by decide) (Nat.le_of_ble_eq_true rfl) ?_) rfl (Nat.le_of_ble_eq_true rfl) (Nat.le_of_ble_eq_true rfl) (Nat.le_of_ble_eq_true rfl) (hst := rfl) (fun _ _ _ h => h)
      refine mv_aload_n d_TrustDeskModel_isWell_0 rfl rfl ?_
      obtain ⟨v2042, q2041⟩ := tm_atI I2020 t2025 (k := 19) rfl
      refine tr_getK q2041 d_TrustDeskModel_isWell_1 f_TrustDeskModel_224_13 ?_
      have := R2022.f (k := 19) q2041 rfl
      have := tm_rv q2041
      refine mv_if_neZ (tgt := 11) (a := v2042.toInt) d_TrustDeskModel_isWell_4 (by decide) rfl (fun b2043 => ?_) (fun b2043 => ?_)
      · refine mv_iconst (v := 0) d_TrustDeskModel_isWell_11 (by decide) ?_
        refine mv_iret d_TrustDeskModel_isWell_12 rfl (by decide) ?_
        refine mv_if_ne_f (tgt := 43) d_TrustDeskModel_readRule_39 (by decide) (by decide) ?_
        exact mv_vret d_TrustDeskModel_readRule_42 rfl ⟨_, I2020, rfl, R2022, (rW.of E2033.1 (fun h9 => by exfalso; skip; have := R2022.1 15 _ _ rfl; have := R2022.1 16 _ _ rfl; have := R2022.1 19 _ _ rfl; omega) (fun h9 => by exfalso; skip; have := R2022.1 15 _ _ rfl; have := R2022.1 16 _ _ rfl; have := R2022.1 19 _ _ rfl; omega)), (rO.of E2033 K2034 (by have := yR.2 6 _ _ rfl 44; omega)), ⟨E2033.2.1, fun w9 => by skip; have := E2033.w2 w9; omega⟩, (fun w9 => by skip; omega), (by first | (rw [show p_rul pb pn pa pc9 ps = s2036 from (by unfold p_rul; unfold p_bar; (try simp only [e2037]); ((repeat' (first | (with_reducible rfl) | split)) <;> (first | ((try simp only [e2037]); done) | ((try simp only [e2037]); first | exact p_sg_Z _ (by omega) | exact (p_sg_Z _ (by omega)).symm | omega) | (exfalso; omega))))]; exact f2024) | (exfalso; have := R2022.1 15 _ _ rfl; have := R2022.1 16 _ _ rfl; have := R2022.1 19 _ _ rfl; omega)), (fun w9 => by skip; omega)⟩
      · exfalso
        have := R2022.1 15 _ _ rfl; have := R2022.1 16 _ _ rfl; have := R2022.1 19 _ _ rfl; omega
  · refine mv_aload_n d_TrustDeskModel_readRule_10 rfl rfl ?_
    refine mv_iconst (v := 1) d_TrustDeskModel_readRule_11 (by decide) ?_
    obtain ⟨_, b2050, -⟩ := I8.1 _ _ t14
    have : (1 : Int32).toInt = 1 := by decide
    refine mv_callV (kc' := 0) (ks' := 0) (As := [.int 1]) (st9 := [.int 1, .ref o0]) d_TrustDeskModel_readRule_12 lV_TrustDeskModel_240 b2050 rfl (tc_TrustDeskModel_fails_x (d := (d + 24)) (x9 := x9) (o0 := o0) (x1 := 1) t14 R11 (by decide) Z926 I8.start) rfl (Nat.le_of_ble_eq_true rfl) (Nat.le_of_ble_eq_true rfl) (Nat.le_of_ble_eq_true rfl) (hst := rfl) (fun b2044r M2045 n2046 b2044 => ?_)
    obtain ⟨T2047, J2048, rfl, R2051, f2052, f2053⟩ := b2044
    have I2049 := I8.call J2048 (tm_sub (by decide)) (Or.inl rfl)
    have t2054 := J2048.up t14
    have z2055 := (rv_c I8 J2048 (I8.up h_o0) (k := 15) rfl).trans z15
    have z2056 := (rv_c I8 J2048 (I8.up h_o0) (k := 16) rfl).trans z16
    have z2057 := (rv_c I8 J2048 (I8.up h_o0) (k := 17) rfl).trans z17
    have z2058 := (rv_c I8 J2048 (I8.up h_o0) (k := 22) rfl).trans z19
    have z2059 := (rv_c I8 J2048 (I8.up h_o0) (k := 24) rfl).trans z20
    have z2060 := (ra_call I8 J2048 (I8.up h_o0) (k := 5) rfl rfl rfl 44).trans z21
    have z2061 := (ra_call I8 J2048 (I8.up h_o0) (k := 6) rfl rfl rfl 44).trans z22
    have E2062 : rE M0 M2045 o0 0 0 := E23.fails (rE_hv I8 J2048 (I8.up h_o0) 15 18 (by decide)) (rE_ha I8 J2048 (I8.up h_o0) (by decide)) f2052 0 0
    have K2063 : rK M0 M2045 o0 ((880 + ra M0 o0 6 44).toNat) := K24.same (sA_c I8 J2048 (I8.up h_o0) (by decide +kernel))
    have K2064 : nN M2045 o0 := K25.same (sA_c I8 J2048 (I8.up h_o0) (by decide +kernel)) (sF_c I8 J2048 (I8.up h_o0) (by decide +kernel))
    rw [show (1 : Int32).toInt = 1 from by decide] at f2053
    obtain ⟨s2065, e2066⟩ : ∃ s9 : p_S, p_fl pb pn 1 ps = s9 := ⟨_, rfl⟩
    rw [e2066] at f2053
    have := f2053.w
    clear z15 z16 z17 z19 z20 z21 z22
    refine mv_goto (tgt := 35) d_TrustDeskModel_readRule_15 (by decide) ?_
    refine mv_aload_n d_TrustDeskModel_readRule_35 rfl rfl ?_
    obtain ⟨_, b2067, -⟩ := I2049.1 _ _ t2054
    refine mv_callV (kc1 := 0) (ks1 := 0) (kc' := 0) (ks' := 0) (As := []) (st9 := [.ref o0]) d_TrustDeskModel_readRule_36 lV_TrustDeskModel_230 b2067 rfl (mj_enter (by decide) (Nat.le_of_ble_eq_true rfl) ?_) rfl (Nat.le_of_ble_eq_true rfl) (Nat.le_of_ble_eq_true rfl) (Nat.le_of_ble_eq_true rfl) (hst := rfl) (fun _ _ _ h => h)
    refine mv_aload_n d_TrustDeskModel_isWell_0 rfl rfl ?_
    obtain ⟨v2069, q2068⟩ := tm_atI I2049 t2054 (k := 19) rfl
    refine tr_getK q2068 d_TrustDeskModel_isWell_1 f_TrustDeskModel_224_13 ?_
    have := R2051.f (k := 19) q2068 rfl
    have := tm_rv q2068
    refine mv_if_neZ (tgt := 11) (a := v2069.toInt) d_TrustDeskModel_isWell_4 (by decide) rfl (fun b2070 => ?_) (fun b2070 => ?_)
    · refine mv_iconst (v := 0) d_TrustDeskModel_isWell_11 (by decide) ?_
      refine mv_iret d_TrustDeskModel_isWell_12 rfl (by decide) ?_
      refine mv_if_ne_f (tgt := 43) d_TrustDeskModel_readRule_39 (by decide) (by decide) ?_
      exact mv_vret d_TrustDeskModel_readRule_42 rfl ⟨_, I2049, rfl, R2051, (rW.of E2062.1 (fun h9 => by exfalso; skip; have := R2051.1 15 _ _ rfl; have := R2051.1 16 _ _ rfl; have := R2051.1 19 _ _ rfl; omega) (fun h9 => by exfalso; skip; have := R2051.1 15 _ _ rfl; have := R2051.1 16 _ _ rfl; have := R2051.1 19 _ _ rfl; omega)), (rO.of E2062 K2063 (by have := yR.2 6 _ _ rfl 44; omega)), ⟨E2062.2.1, fun w9 => by skip; have := E2062.w2 w9; omega⟩, (fun w9 => by skip; omega), (by first | (rw [show p_rul pb pn pa pc9 ps = s2065 from (by unfold p_rul; unfold p_bar; (try simp only [e2066]); ((repeat' (first | (with_reducible rfl) | split)) <;> (first | ((try simp only [e2066]); done) | ((try simp only [e2066]); first | exact p_sg_Z _ (by omega) | exact (p_sg_Z _ (by omega)).symm | omega) | (exfalso; omega))))]; exact f2053) | (exfalso; have := R2051.1 15 _ _ rfl; have := R2051.1 16 _ _ rfl; have := R2051.1 19 _ _ rfl; omega)), (fun w9 => by skip; omega)⟩
    · exfalso
      have := R2051.1 15 _ _ rfl; have := R2051.1 16 _ _ rfl; have := R2051.1 19 _ _ rfl; omega
