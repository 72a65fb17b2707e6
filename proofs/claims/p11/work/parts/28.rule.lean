abbrev kY_TrustDeskModel_readRule : mj_Y := (⟨"TrustDeskModel", "readRule", "()V"⟩, prog_14_method_40_code, 4, (Option.none : Option Jvm.ClassFile.FieldType))
theorem d_TrustDeskModel_readRule_0 : decode kY_TrustDeskModel_readRule.2.1 0 = .ok (.aload_n 0, 1) := by decide +kernel
theorem d_TrustDeskModel_readRule_1 : decode kY_TrustDeskModel_readRule.2.1 1 = .ok (.invokevirtual 365, 3) := by decide +kernel
abbrev kY_TrustDeskModel_ruleWord : mj_Y := (⟨"TrustDeskModel", "ruleWord", "()I"⟩, prog_14_method_39_code, 1, (Option.some Jvm.ClassFile.FieldType.int))
theorem d_TrustDeskModel_ruleWord_0 : decode kY_TrustDeskModel_ruleWord.2.1 0 = .ok (.aload_n 0, 1) := by decide +kernel
theorem d_TrustDeskModel_ruleWord_1 : decode kY_TrustDeskModel_ruleWord.2.1 1 = .ok (.ldc_w 351, 3) := by decide +kernel
theorem d_TrustDeskModel_ruleWord_4 : decode kY_TrustDeskModel_ruleWord.2.1 4 = .ok (.invokevirtual 244, 3) := by decide +kernel
def w_TrustDeskModel_isWord_s1_14_x : List Nat := []
theorem tc_TrustDeskModel_isWord_s1_14_x {g : mj_G} {l : Launch} {d : Nat} {T0 : tm_H} {M0 : mj_M} {n0 x9 : Nat} {o0 : Nat} (h_o0 : T0 o0 = some (0, 13, 0)) (yR : rI M0 o0) (I0 : tm_I tm_FT (tm_in w_TrustDeskModel_isWord_s1_14_x) x9 T0 M0 n0 T0 M0 n0) : mj_Met g l kY_TrustDeskModel_isWord (d + 4) [.ref o0, .ref 14] M0 n0 0 0 (tm_Q tm_FT (tm_in w_TrustDeskModel_isWord_s1_14_x) x9 T0 M0 n0 (fun r _ M => ∃ v : Int32, r = some (.int v) ∧ 0 ≤ v.toInt ∧ v.toInt ≤ 1 ∧ rI M o0 ∧ (v.toInt = 1 → rv M0 o0 17 = 3))) := by
  refine mj_enter (by decide) (Nat.le_of_ble_eq_true rfl) ?_
  refine mv_aload_n d_TrustDeskModel_isWord_0 rfl rfl ?_
  obtain ⟨v2, q1⟩ := tm_atI I0 h_o0 (k := 17) rfl
  refine tr_getK q1 d_TrustDeskModel_isWord_1 f_TrustDeskModel_198_13 ?_
  have := tm_rv q1
  refine mv_iconst (v := 3) d_TrustDeskModel_isWord_4 (by decide) ?_
  have := mz_hi v2
  refine mv_icmp_neZ (tgt := 24) (a := v2.toInt) (b := 3) d_TrustDeskModel_isWord_5 (by decide) rfl (by decide) (fun b3 => ?_) (fun b3 => ?_)
  · refine mv_iconst (v := 0) d_TrustDeskModel_isWord_24 (by decide) ?_
    exact mv_iret d_TrustDeskModel_isWord_25 rfl (by decide) ⟨_, I0, _, rfl, by decide, by decide, yR, (fun h => absurd h (by decide))⟩
  · refine mv_aload_n d_TrustDeskModel_isWord_8 rfl rfl ?_
    obtain ⟨v5, q4⟩ := tm_atI I0 h_o0 (k := 15) rfl
    refine tr_getK q4 d_TrustDeskModel_isWord_9 f_TrustDeskModel_192_13 ?_
    have := yR.f (k := 15) q4 rfl
    have := tm_rv q4
    refine mv_aload_n d_TrustDeskModel_isWord_12 rfl rfl ?_
    obtain ⟨v7, q6⟩ := tm_atI I0 h_o0 (k := 16) rfl
    refine tr_getK q6 d_TrustDeskModel_isWord_13 f_TrustDeskModel_195_13 ?_
    have := yR.f (k := 16) q6 rfl
    have := tm_rv q6
    refine mv_isub d_TrustDeskModel_isWord_16 ?_
    refine mv_aload_n d_TrustDeskModel_isWord_17 rfl rfl ?_
    refine mv_slenK (i := 4) (v := 4) d_TrustDeskModel_isWord_18 lV_TrustDeskModel_214 (by decide) rfl (by decide) (Nat.le_of_ble_eq_true rfl) ?_
    have b8 : (v5 - v7 : Int32).toInt = (v5.toInt - v7.toInt) := mz_sub2 rfl rfl (by have := yR.1 15 _ _ rfl; have := yR.1 16 _ _ rfl; have := yR.1 19 _ _ rfl; omega) (by have := yR.1 15 _ _ rfl; have := yR.1 16 _ _ rfl; have := yR.1 19 _ _ rfl; omega)
    have := mz_hi (v5 - v7)
    refine mv_icmp_eqZ (tgt := 26) (a := (v5 - v7).toInt) (b := 4) d_TrustDeskModel_isWord_21 (by decide) rfl (by decide) (fun b9 => ?_) (fun b9 => ?_)
    · refine mv_iconst (v := 0) d_TrustDeskModel_isWord_26 (by decide) ?_
      refine mv_istore_n (lv' := [(2, .int 0), (0, .ref o0), (1, .ref 14)]) d_TrustDeskModel_isWord_27 rfl (by decide) rfl ?_
      have L28_10 : ∀ (k : Nat) (i2_10 : Int32) (T_10 : tm_H) (M_10 : mj_M) (n_10 : Nat), tm_I tm_FT (tm_in w_TrustDeskModel_isWord_s1_14_x) x9 T0 M0 n0 T_10 M_10 n_10 → T_10 o0 = some (0, 13, 0) → 0 ≤ i2_10.toInt → rv M_10 o0 15 = rv M0 o0 15 → rv M_10 o0 16 = rv M0 o0 16 → i2_10.toInt ≤ 2147483646 → (rI M_10 o0) → 2147483647 - i2_10.toInt < (k : Int) → mj_V g l kY_TrustDeskModel_isWord (d + 4) 28 [(2, .int i2_10), (0, .ref o0), (1, .ref 14)] [] M_10 n_10 0 0 (tm_Q tm_FT (tm_in w_TrustDeskModel_isWord_s1_14_x) x9 T0 M0 n0 (fun r _ M => ∃ v : Int32, r = some (.int v) ∧ 0 ≤ v.toInt ∧ v.toInt ≤ 1 ∧ rI M o0 ∧ (v.toInt = 1 → rv M0 o0 17 = 3))) := by
        intro k10
        induction k10 with
        | zero =>
          intro i2_10 T_10 M_10 n_10 I_10 h_q0_10 iv0_10 iv1_10 iv2_10 iv3_10 kKR_10 hk10
          have := mz_hi i2_10
          have := kKR_10.1 15 _ _ rfl
          have := kKR_10.1 16 _ _ rfl
          have := kKR_10.1 19 _ _ rfl
          omega
        | succ k10 ih10 =>
          intro i2_10 T_10 M_10 n_10 I_10 h_q0_10 iv0_10 iv1_10 iv2_10 iv3_10 kKR_10 hk10
          refine mv_iload_n d_TrustDeskModel_isWord_28 rfl rfl ?_
          refine mv_aload_n d_TrustDeskModel_isWord_29 rfl rfl ?_
          refine mv_slenK (i := 4) (v := 4) d_TrustDeskModel_isWord_30 lV_TrustDeskModel_214 (by decide) rfl (by decide) (Nat.le_of_ble_eq_true rfl) ?_
          have := mz_hi i2_10
          refine mv_icmp_geZ (tgt := 63) (a := i2_10.toInt) (b := 4) d_TrustDeskModel_isWord_33 (by decide) rfl (by decide) (fun b11 => ?_) (fun b11 => ?_)
          · refine mv_iconst (v := 1) d_TrustDeskModel_isWord_63 (by decide) ?_
            exact mv_iret d_TrustDeskModel_isWord_64 rfl (by decide) ⟨_, I_10, _, rfl, by decide, by decide, kKR_10, (fun _ => by omega)⟩
          · refine mv_aload_n d_TrustDeskModel_isWord_36 rfl rfl ?_
            obtain ⟨a13, q12, t_a13⟩ := tm_atR I_10 h_q0_10 (k := 13) rfl
            refine tr_getK q12 d_TrustDeskModel_isWord_37 f_TrustDeskModel_44_13 ?_
            refine mv_aload_n d_TrustDeskModel_isWord_40 rfl rfl ?_
            obtain ⟨v15, q14⟩ := tm_atI I_10 h_q0_10 (k := 16) rfl
            refine tr_getK q14 d_TrustDeskModel_isWord_41 f_TrustDeskModel_195_13 ?_
            have := kKR_10.f (k := 16) q14 rfl
            have := tm_rv q14
            refine mv_iload_n d_TrustDeskModel_isWord_44 rfl rfl ?_
            refine mv_iadd d_TrustDeskModel_isWord_45 ?_
            have b16 : (v15 + i2_10 : Int32).toInt = (v15.toInt + i2_10.toInt) := mz_add2 rfl rfl (by have := kKR_10.1 15 _ _ rfl; have := kKR_10.1 16 _ _ rfl; have := kKR_10.1 19 _ _ rfl; omega) (by have := kKR_10.1 15 _ _ rfl; have := kKR_10.1 16 _ _ rfl; have := kKR_10.1 19 _ _ rfl; omega)
            refine tr_baldR (o := o0) (k := 13) I_10 q12 t_a13 (by decide) d_TrustDeskModel_isWord_46 (vp_in_iff.mpr (by have := kKR_10.1 15 _ _ rfl; have := kKR_10.1 16 _ _ rfl; have := kKR_10.1 19 _ _ rfl; omega)) (fun v17 e18 => ?_)
            have := kKR_10.a (k := 13) rfl ((v15 + i2_10) : Int32).toNatClampNeg
            refine mv_aload_n d_TrustDeskModel_isWord_47 rfl rfl ?_
            refine mv_iload_n d_TrustDeskModel_isWord_48 rfl rfl ?_
            refine mv_schN (i := 4) (N := 4) d_TrustDeskModel_isWord_49 lV_TrustDeskModel_220 (by decide) rfl rfl (by omega) (by omega) (Nat.le_of_ble_eq_true rfl) (fun v19 => ?_)
            have := mz_hi v17
            have := mz_hi v19
            refine mv_icmp_eqZ (tgt := 57) (a := v17.toInt) (b := v19.toInt) d_TrustDeskModel_isWord_52 (by decide) rfl rfl (fun b20 => ?_) (fun b20 => ?_)
            · refine mv_iinc (v := (i2_10 + 1)) (lv' := [(2, .int (i2_10 + 1)), (0, .ref o0), (1, .ref 14)]) d_TrustDeskModel_isWord_57 rfl rfl (by decide) rfl ?_
              refine mv_goto (tgt := 28) d_TrustDeskModel_isWord_60 (by decide) ?_
              have b21 : (i2_10 + 1).toInt = i2_10.toInt + 1 := mz_addn 1 1 (by decide) (by have := mz_lo i2_10; omega) (by have := mz_hi i2_10; omega)
              exact (ih10 (i2_10 + 1) T_10 M_10 n_10 I_10 h_q0_10 (by have := kKR_10.1 15 _ _ rfl; have := kKR_10.1 16 _ _ rfl; have := kKR_10.1 19 _ _ rfl; first | omega | decide | exact fun h9 => absurd (by decide) h9) (by have := kKR_10.1 15 _ _ rfl; have := kKR_10.1 16 _ _ rfl; have := kKR_10.1 19 _ _ rfl; first | omega | decide | exact fun h9 => absurd (by decide) h9) (by have := kKR_10.1 15 _ _ rfl; have := kKR_10.1 16 _ _ rfl; have := kKR_10.1 19 _ _ rfl; first | omega | decide | exact fun h9 => absurd (by decide) h9) (by have := kKR_10.1 15 _ _ rfl; have := kKR_10.1 16 _ _ rfl; have := kKR_10.1 19 _ _ rfl; first | omega | decide | exact fun h9 => absurd (by decide) h9) kKR_10 (by have := kKR_10.1 15 _ _ rfl; have := kKR_10.1 16 _ _ rfl; have := kKR_10.1 19 _ _ rfl; omega))
            · refine mv_iconst (v := 0) d_TrustDeskModel_isWord_55 (by decide) ?_
              exact mv_iret d_TrustDeskModel_isWord_56 rfl (by decide) ⟨_, I_10, _, rfl, by decide, by decide, kKR_10, (fun h => absurd h (by decide))⟩
      exact mv_less (Nat.zero_le _) (Nat.zero_le _) (L28_10 4294967296 0 T0 M0 n0 I0 h_o0 (by have := yR.1 15 _ _ rfl; have := yR.1 16 _ _ rfl; have := yR.1 19 _ _ rfl; first | omega | decide | exact fun h9 => absurd (by decide) h9) (by have := yR.1 15 _ _ rfl; have := yR.1 16 _ _ rfl; have := yR.1 19 _ _ rfl; first | omega | decide | exact fun h9 => absurd (by decide) h9) (by have := yR.1 15 _ _ rfl; have := yR.1 16 _ _ rfl; have := yR.1 19 _ _ rfl; first | omega | decide | exact fun h9 => absurd (by decide) h9) (by have := yR.1 15 _ _ rfl; have := yR.1 16 _ _ rfl; have := yR.1 19 _ _ rfl; first | omega | decide | exact fun h9 => absurd (by decide) h9) yR (by show (2147483647 - (0 : Int) : Int) < _; decide))
    · refine mv_iconst (v := 0) d_TrustDeskModel_isWord_24 (by decide) ?_
      exact mv_iret d_TrustDeskModel_isWord_25 rfl (by decide) ⟨_, I0, _, rfl, by decide, by decide, yR, (fun h => absurd h (by decide))⟩
theorem d_TrustDeskModel_ruleWord_7 : decode kY_TrustDeskModel_ruleWord.2.1 7 = .ok (.ifCond .eq 7, 3) := by decide +kernel
theorem d_TrustDeskModel_ruleWord_14 : decode kY_TrustDeskModel_ruleWord.2.1 14 = .ok (.aload_n 0, 1) := by decide +kernel
theorem d_TrustDeskModel_ruleWord_15 : decode kY_TrustDeskModel_ruleWord.2.1 15 = .ok (.ldc_w 353, 3) := by decide +kernel
theorem d_TrustDeskModel_ruleWord_18 : decode kY_TrustDeskModel_ruleWord.2.1 18 = .ok (.invokevirtual 244, 3) := by decide +kernel
def w_TrustDeskModel_isWord_s1_15_x : List Nat := []
theorem tc_TrustDeskModel_isWord_s1_15_x {g : mj_G} {l : Launch} {d : Nat} {T0 : tm_H} {M0 : mj_M} {n0 x9 : Nat} {o0 : Nat} (h_o0 : T0 o0 = some (0, 13, 0)) (yR : rI M0 o0) (I0 : tm_I tm_FT (tm_in w_TrustDeskModel_isWord_s1_15_x) x9 T0 M0 n0 T0 M0 n0) : mj_Met g l kY_TrustDeskModel_isWord (d + 4) [.ref o0, .ref 15] M0 n0 0 0 (tm_Q tm_FT (tm_in w_TrustDeskModel_isWord_s1_15_x) x9 T0 M0 n0 (fun r _ M => ∃ v : Int32, r = some (.int v) ∧ 0 ≤ v.toInt ∧ v.toInt ≤ 1 ∧ rI M o0 ∧ (v.toInt = 1 → rv M0 o0 17 = 3))) := by
  refine mj_enter (by decide) (Nat.le_of_ble_eq_true rfl) ?_
  refine mv_aload_n d_TrustDeskModel_isWord_0 rfl rfl ?_
  obtain ⟨v2, q1⟩ := tm_atI I0 h_o0 (k := 17) rfl
  refine tr_getK q1 d_TrustDeskModel_isWord_1 f_TrustDeskModel_198_13 ?_
  have := tm_rv q1
  refine mv_iconst (v := 3) d_TrustDeskModel_isWord_4 (by decide) ?_
  have := mz_hi v2
  refine mv_icmp_neZ (tgt := 24) (a := v2.toInt) (b := 3) d_TrustDeskModel_isWord_5 (by decide) rfl (by decide) (fun b3 => ?_) (fun b3 => ?_)
  · refine mv_iconst (v := 0) d_TrustDeskModel_isWord_24 (by decide) ?_
    exact mv_iret d_TrustDeskModel_isWord_25 rfl (by decide) ⟨_, I0, _, rfl, by decide, by decide, yR, (fun h => absurd h (by decide))⟩
  · refine mv_aload_n d_TrustDeskModel_isWord_8 rfl rfl ?_
    obtain ⟨v5, q4⟩ := tm_atI I0 h_o0 (k := 15) rfl
    refine tr_getK q4 d_TrustDeskModel_isWord_9 f_TrustDeskModel_192_13 ?_
    have := yR.f (k := 15) q4 rfl
    have := tm_rv q4
    refine mv_aload_n d_TrustDeskModel_isWord_12 rfl rfl ?_
    obtain ⟨v7, q6⟩ := tm_atI I0 h_o0 (k := 16) rfl
    refine tr_getK q6 d_TrustDeskModel_isWord_13 f_TrustDeskModel_195_13 ?_
    have := yR.f (k := 16) q6 rfl
    have := tm_rv q6
    refine mv_isub d_TrustDeskModel_isWord_16 ?_
    refine mv_aload_n d_TrustDeskModel_isWord_17 rfl rfl ?_
    refine mv_slenK (i := 5) (v := 4) d_TrustDeskModel_isWord_18 lV_TrustDeskModel_214 (by decide) rfl (by decide) (Nat.le_of_ble_eq_true rfl) ?_
    have b8 : (v5 - v7 : Int32).toInt = (v5.toInt - v7.toInt) := mz_sub2 rfl rfl (by have := yR.1 15 _ _ rfl; have := yR.1 16 _ _ rfl; have := yR.1 19 _ _ rfl; omega) (by have := yR.1 15 _ _ rfl; have := yR.1 16 _ _ rfl; have := yR.1 19 _ _ rfl; omega)
    have := mz_hi (v5 - v7)
    refine mv_icmp_eqZ (tgt := 26) (a := (v5 - v7).toInt) (b := 4) d_TrustDeskModel_isWord_21 (by decide) rfl (by decide) (fun b9 => ?_) (fun b9 => ?_)
    · refine mv_iconst (v := 0) d_TrustDeskModel_isWord_26 (by decide) ?_
      refine mv_istore_n (lv' := [(2, .int 0), (0, .ref o0), (1, .ref 15)]) d_TrustDeskModel_isWord_27 rfl (by decide) rfl ?_
      have L28_10 : ∀ (k : Nat) (i2_10 : Int32) (T_10 : tm_H) (M_10 : mj_M) (n_10 : Nat), tm_I tm_FT (tm_in w_TrustDeskModel_isWord_s1_15_x) x9 T0 M0 n0 T_10 M_10 n_10 → T_10 o0 = some (0, 13, 0) → 0 ≤ i2_10.toInt → rv M_10 o0 15 = rv M0 o0 15 → rv M_10 o0 16 = rv M0 o0 16 → i2_10.toInt ≤ 2147483646 → (rI M_10 o0) → 2147483647 - i2_10.toInt < (k : Int) → mj_V g l kY_TrustDeskModel_isWord (d + 4) 28 [(2, .int i2_10), (0, .ref o0), (1, .ref 15)] [] M_10 n_10 0 0 (tm_Q tm_FT (tm_in w_TrustDeskModel_isWord_s1_15_x) x9 T0 M0 n0 (fun r _ M => ∃ v : Int32, r = some (.int v) ∧ 0 ≤ v.toInt ∧ v.toInt ≤ 1 ∧ rI M o0 ∧ (v.toInt = 1 → rv M0 o0 17 = 3))) := by
        intro k10
        induction k10 with
        | zero =>
          intro i2_10 T_10 M_10 n_10 I_10 h_q0_10 iv0_10 iv1_10 iv2_10 iv3_10 kKR_10 hk10
          have := mz_hi i2_10
          have := kKR_10.1 15 _ _ rfl
          have := kKR_10.1 16 _ _ rfl
          have := kKR_10.1 19 _ _ rfl
          omega
        | succ k10 ih10 =>
          intro i2_10 T_10 M_10 n_10 I_10 h_q0_10 iv0_10 iv1_10 iv2_10 iv3_10 kKR_10 hk10
          refine mv_iload_n d_TrustDeskModel_isWord_28 rfl rfl ?_
          refine mv_aload_n d_TrustDeskModel_isWord_29 rfl rfl ?_
          refine mv_slenK (i := 5) (v := 4) d_TrustDeskModel_isWord_30 lV_TrustDeskModel_214 (by decide) rfl (by decide) (Nat.le_of_ble_eq_true rfl) ?_
          have := mz_hi i2_10
          refine mv_icmp_geZ (tgt := 63) (a := i2_10.toInt) (b := 4) d_TrustDeskModel_isWord_33 (by decide) rfl (by decide) (fun b11 => ?_) (fun b11 => ?_)
          · refine mv_iconst (v := 1) d_TrustDeskModel_isWord_63 (by decide) ?_
            exact mv_iret d_TrustDeskModel_isWord_64 rfl (by decide) ⟨_, I_10, _, rfl, by decide, by decide, kKR_10, (fun _ => by omega)⟩
          · refine mv_aload_n d_TrustDeskModel_isWord_36 rfl rfl ?_
            obtain ⟨a13, q12, t_a13⟩ := tm_atR I_10 h_q0_10 (k := 13) rfl
            refine tr_getK q12 d_TrustDeskModel_isWord_37 f_TrustDeskModel_44_13 ?_
            refine mv_aload_n d_TrustDeskModel_isWord_40 rfl rfl ?_
            obtain ⟨v15, q14⟩ := tm_atI I_10 h_q0_10 (k := 16) rfl
            refine tr_getK q14 d_TrustDeskModel_isWord_41 f_TrustDeskModel_195_13 ?_
            have := kKR_10.f (k := 16) q14 rfl
            have := tm_rv q14
            refine mv_iload_n d_TrustDeskModel_isWord_44 rfl rfl ?_
            refine mv_iadd d_TrustDeskModel_isWord_45 ?_
            have b16 : (v15 + i2_10 : Int32).toInt = (v15.toInt + i2_10.toInt) := mz_add2 rfl rfl (by have := kKR_10.1 15 _ _ rfl; have := kKR_10.1 16 _ _ rfl; have := kKR_10.1 19 _ _ rfl; omega) (by have := kKR_10.1 15 _ _ rfl; have := kKR_10.1 16 _ _ rfl; have := kKR_10.1 19 _ _ rfl; omega)
            refine tr_baldR (o := o0) (k := 13) I_10 q12 t_a13 (by decide) d_TrustDeskModel_isWord_46 (vp_in_iff.mpr (by have := kKR_10.1 15 _ _ rfl; have := kKR_10.1 16 _ _ rfl; have := kKR_10.1 19 _ _ rfl; omega)) (fun v17 e18 => ?_)
            have := kKR_10.a (k := 13) rfl ((v15 + i2_10) : Int32).toNatClampNeg
            refine mv_aload_n d_TrustDeskModel_isWord_47 rfl rfl ?_
            refine mv_iload_n d_TrustDeskModel_isWord_48 rfl rfl ?_
            refine mv_schN (i := 5) (N := 4) d_TrustDeskModel_isWord_49 lV_TrustDeskModel_220 (by decide) rfl rfl (by omega) (by omega) (Nat.le_of_ble_eq_true rfl) (fun v19 => ?_)
            have := mz_hi v17
            have := mz_hi v19
            refine mv_icmp_eqZ (tgt := 57) (a := v17.toInt) (b := v19.toInt) d_TrustDeskModel_isWord_52 (by decide) rfl rfl (fun b20 => ?_) (fun b20 => ?_)
            · refine mv_iinc (v := (i2_10 + 1)) (lv' := [(2, .int (i2_10 + 1)), (0, .ref o0), (1, .ref 15)]) d_TrustDeskModel_isWord_57 rfl rfl (by decide) rfl ?_
              refine mv_goto (tgt := 28) d_TrustDeskModel_isWord_60 (by decide) ?_
              have b21 : (i2_10 + 1).toInt = i2_10.toInt + 1 := mz_addn 1 1 (by decide) (by have := mz_lo i2_10; omega) (by have := mz_hi i2_10; omega)
              exact (ih10 (i2_10 + 1) T_10 M_10 n_10 I_10 h_q0_10 (by have := kKR_10.1 15 _ _ rfl; have := kKR_10.1 16 _ _ rfl; have := kKR_10.1 19 _ _ rfl; first | omega | decide | exact fun h9 => absurd (by decide) h9) (by have := kKR_10.1 15 _ _ rfl; have := kKR_10.1 16 _ _ rfl; have := kKR_10.1 19 _ _ rfl; first | omega | decide | exact fun h9 => absurd (by decide) h9) (by have := kKR_10.1 15 _ _ rfl; have := kKR_10.1 16 _ _ rfl; have := kKR_10.1 19 _ _ rfl; first | omega | decide | exact fun h9 => absurd (by decide) h9) (by have := kKR_10.1 15 _ _ rfl; have := kKR_10.1 16 _ _ rfl; have := kKR_10.1 19 _ _ rfl; first | omega | decide | exact fun h9 => absurd (by decide) h9) kKR_10 (by have := kKR_10.1 15 _ _ rfl; have := kKR_10.1 16 _ _ rfl; have := kKR_10.1 19 _ _ rfl; omega))
            · refine mv_iconst (v := 0) d_TrustDeskModel_isWord_55 (by decide) ?_
              exact mv_iret d_TrustDeskModel_isWord_56 rfl (by decide) ⟨_, I_10, _, rfl, by decide, by decide, kKR_10, (fun h => absurd h (by decide))⟩
      exact mv_less (Nat.zero_le _) (Nat.zero_le _) (L28_10 4294967296 0 T0 M0 n0 I0 h_o0 (by have := yR.1 15 _ _ rfl; have := yR.1 16 _ _ rfl; have := yR.1 19 _ _ rfl; first | omega | decide | exact fun h9 => absurd (by decide) h9) (by have := yR.1 15 _ _ rfl; have := yR.1 16 _ _ rfl; have := yR.1 19 _ _ rfl; first | omega | decide | exact fun h9 => absurd (by decide) h9) (by have := yR.1 15 _ _ rfl; have := yR.1 16 _ _ rfl; have := yR.1 19 _ _ rfl; first | omega | decide | exact fun h9 => absurd (by decide) h9) (by have := yR.1 15 _ _ rfl; have := yR.1 16 _ _ rfl; have := yR.1 19 _ _ rfl; first | omega | decide | exact fun h9 => absurd (by decide) h9) yR (by show (2147483647 - (0 : Int) : Int) < _; decide))
    · refine mv_iconst (v := 0) d_TrustDeskModel_isWord_24 (by decide) ?_
      exact mv_iret d_TrustDeskModel_isWord_25 rfl (by decide) ⟨_, I0, _, rfl, by decide, by decide, yR, (fun h => absurd h (by decide))⟩
theorem d_TrustDeskModel_ruleWord_21 : decode kY_TrustDeskModel_ruleWord.2.1 21 = .ok (.ifCond .eq 7, 3) := by decide +kernel
theorem d_TrustDeskModel_ruleWord_28 : decode kY_TrustDeskModel_ruleWord.2.1 28 = .ok (.aload_n 0, 1) := by decide +kernel
theorem d_TrustDeskModel_ruleWord_29 : decode kY_TrustDeskModel_ruleWord.2.1 29 = .ok (.ldc_w 355, 3) := by decide +kernel
theorem d_TrustDeskModel_ruleWord_32 : decode kY_TrustDeskModel_ruleWord.2.1 32 = .ok (.invokevirtual 244, 3) := by decide +kernel
def w_TrustDeskModel_isWord_s1_16_x : List Nat := []
theorem tc_TrustDeskModel_isWord_s1_16_x {g : mj_G} {l : Launch} {d : Nat} {T0 : tm_H} {M0 : mj_M} {n0 x9 : Nat} {o0 : Nat} (h_o0 : T0 o0 = some (0, 13, 0)) (yR : rI M0 o0) (I0 : tm_I tm_FT (tm_in w_TrustDeskModel_isWord_s1_16_x) x9 T0 M0 n0 T0 M0 n0) : mj_Met g l kY_TrustDeskModel_isWord (d + 4) [.ref o0, .ref 16] M0 n0 0 0 (tm_Q tm_FT (tm_in w_TrustDeskModel_isWord_s1_16_x) x9 T0 M0 n0 (fun r _ M => ∃ v : Int32, r = some (.int v) ∧ 0 ≤ v.toInt ∧ v.toInt ≤ 1 ∧ rI M o0 ∧ (v.toInt = 1 → rv M0 o0 17 = 3))) := by
  refine mj_enter (by decide) (Nat.le_of_ble_eq_true rfl) ?_
  refine mv_aload_n d_TrustDeskModel_isWord_0 rfl rfl ?_
  obtain ⟨v2, q1⟩ := tm_atI I0 h_o0 (k := 17) rfl
  refine tr_getK q1 d_TrustDeskModel_isWord_1 f_TrustDeskModel_198_13 ?_
  have := tm_rv q1
  refine mv_iconst (v := 3) d_TrustDeskModel_isWord_4 (by decide) ?_
  have := mz_hi v2
  refine mv_icmp_neZ (tgt := 24) (a := v2.toInt) (b := 3) d_TrustDeskModel_isWord_5 (by decide) rfl (by decide) (fun b3 => ?_) (fun b3 => ?_)
  · refine mv_iconst (v := 0) d_TrustDeskModel_isWord_24 (by decide) ?_
    exact mv_iret d_TrustDeskModel_isWord_25 rfl (by decide) ⟨_, I0, _, rfl, by decide, by decide, yR, (fun h => absurd h (by decide))⟩
  · refine mv_aload_n d_TrustDeskModel_isWord_8 rfl rfl ?_
    obtain ⟨v5, q4⟩ := tm_atI I0 h_o0 (k := 15) rfl
    refine tr_getK q4 d_TrustDeskModel_isWord_9 f_TrustDeskModel_192_13 ?_
    have := yR.f (k := 15) q4 rfl
    have := tm_rv q4
    refine mv_aload_n d_TrustDeskModel_isWord_12 rfl rfl ?_
    obtain ⟨v7, q6⟩ := tm_atI I0 h_o0 (k := 16) rfl
    refine tr_getK q6 d_TrustDeskModel_isWord_13 f_TrustDeskModel_195_13 ?_
    have := yR.f (k := 16) q6 rfl
    have := tm_rv q6
    refine mv_isub d_TrustDeskModel_isWord_16 ?_
    refine mv_aload_n d_TrustDeskModel_isWord_17 rfl rfl ?_
    refine mv_slenK (i := 6) (v := 4) d_TrustDeskModel_isWord_18 lV_TrustDeskModel_214 (by decide) rfl (by decide) (Nat.le_of_ble_eq_true rfl) ?_
    have b8 : (v5 - v7 : Int32).toInt = (v5.toInt - v7.toInt) := mz_sub2 rfl rfl (by have := yR.1 15 _ _ rfl; have := yR.1 16 _ _ rfl; have := yR.1 19 _ _ rfl; omega) (by have := yR.1 15 _ _ rfl; have := yR.1 16 _ _ rfl; have := yR.1 19 _ _ rfl; omega)
    have := mz_hi (v5 - v7)
    refine mv_icmp_eqZ (tgt := 26) (a := (v5 - v7).toInt) (b := 4) d_TrustDeskModel_isWord_21 (by decide) rfl (by decide) (fun b9 => ?_) (fun b9 => ?_)
    · refine mv_iconst (v := 0) d_TrustDeskModel_isWord_26 (by decide) ?_
      refine mv_istore_n (lv' := [(2, .int 0), (0, .ref o0), (1, .ref 16)]) d_TrustDeskModel_isWord_27 rfl (by decide) rfl ?_
      have L28_10 : ∀ (k : Nat) (i2_10 : Int32) (T_10 : tm_H) (M_10 : mj_M) (n_10 : Nat), tm_I tm_FT (tm_in w_TrustDeskModel_isWord_s1_16_x) x9 T0 M0 n0 T_10 M_10 n_10 → T_10 o0 = some (0, 13, 0) → 0 ≤ i2_10.toInt → rv M_10 o0 15 = rv M0 o0 15 → rv M_10 o0 16 = rv M0 o0 16 → i2_10.toInt ≤ 2147483646 → (rI M_10 o0) → 2147483647 - i2_10.toInt < (k : Int) → mj_V g l kY_TrustDeskModel_isWord (d + 4) 28 [(2, .int i2_10), (0, .ref o0), (1, .ref 16)] [] M_10 n_10 0 0 (tm_Q tm_FT (tm_in w_TrustDeskModel_isWord_s1_16_x) x9 T0 M0 n0 (fun r _ M => ∃ v : Int32, r = some (.int v) ∧ 0 ≤ v.toInt ∧ v.toInt ≤ 1 ∧ rI M o0 ∧ (v.toInt = 1 → rv M0 o0 17 = 3))) := by
        intro k10
        induction k10 with
        | zero =>
          intro i2_10 T_10 M_10 n_10 I_10 h_q0_10 iv0_10 iv1_10 iv2_10 iv3_10 kKR_10 hk10
          have := mz_hi i2_10
          have := kKR_10.1 15 _ _ rfl
          have := kKR_10.1 16 _ _ rfl
          have := kKR_10.1 19 _ _ rfl
          omega
        | succ k10 ih10 =>
          intro i2_10 T_10 M_10 n_10 I_10 h_q0_10 iv0_10 iv1_10 iv2_10 iv3_10 kKR_10 hk10
          refine mv_iload_n d_TrustDeskModel_isWord_28 rfl rfl ?_
          refine mv_aload_n d_TrustDeskModel_isWord_29 rfl rfl ?_
          refine mv_slenK (i := 6) (v := 4) d_TrustDeskModel_isWord_30 lV_TrustDeskModel_214 (by decide) rfl (by decide) (Nat.le_of_ble_eq_true rfl) ?_
          have := mz_hi i2_10
          refine mv_icmp_geZ (tgt := 63) (a := i2_10.toInt) (b := 4) d_TrustDeskModel_isWord_33 (by decide) rfl (by decide) (fun b11 => ?_) (fun b11 => ?_)
          · refine mv_iconst (v := 1) d_TrustDeskModel_isWord_63 (by decide) ?_
            exact mv_iret d_TrustDeskModel_isWord_64 rfl (by decide) ⟨_, I_10, _, rfl, by decide, by decide, kKR_10, (fun _ => by omega)⟩
          · refine mv_aload_n d_TrustDeskModel_isWord_36 rfl rfl ?_
            obtain ⟨a13, q12, t_a13⟩ := tm_atR I_10 h_q0_10 (k := 13) rfl
            refine tr_getK q12 d_TrustDeskModel_isWord_37 f_TrustDeskModel_44_13 ?_
            refine mv_aload_n d_TrustDeskModel_isWord_40 rfl rfl ?_
            obtain ⟨v15, q14⟩ := tm_atI I_10 h_q0_10 (k := 16) rfl
            refine tr_getK q14 d_TrustDeskModel_isWord_41 f_TrustDeskModel_195_13 ?_
            have := kKR_10.f (k := 16) q14 rfl
            have := tm_rv q14
            refine mv_iload_n d_TrustDeskModel_isWord_44 rfl rfl ?_
            refine mv_iadd d_TrustDeskModel_isWord_45 ?_
            have b16 : (v15 + i2_10 : Int32).toInt = (v15.toInt + i2_10.toInt) := mz_add2 rfl rfl (by have := kKR_10.1 15 _ _ rfl; have := kKR_10.1 16 _ _ rfl; have := kKR_10.1 19 _ _ rfl; omega) (by have := kKR_10.1 15 _ _ rfl; have := kKR_10.1 16 _ _ rfl; have := kKR_10.1 19 _ _ rfl; omega)
            refine tr_baldR (o := o0) (k := 13) I_10 q12 t_a13 (by decide) d_TrustDeskModel_isWord_46 (vp_in_iff.mpr (by have := kKR_10.1 15 _ _ rfl; have := kKR_10.1 16 _ _ rfl; have := kKR_10.1 19 _ _ rfl; omega)) (fun v17 e18 => ?_)
            have := kKR_10.a (k := 13) rfl ((v15 + i2_10) : Int32).toNatClampNeg
            refine mv_aload_n d_TrustDeskModel_isWord_47 rfl rfl ?_
            refine mv_iload_n d_TrustDeskModel_isWord_48 rfl rfl ?_
            refine mv_schN (i := 6) (N := 4) d_TrustDeskModel_isWord_49 lV_TrustDeskModel_220 (by decide) rfl rfl (by omega) (by omega) (Nat.le_of_ble_eq_true rfl) (fun v19 => ?_)
            have := mz_hi v17
            have := mz_hi v19
            refine mv_icmp_eqZ (tgt := 57) (a := v17.toInt) (b := v19.toInt) d_TrustDeskModel_isWord_52 (by decide) rfl rfl (fun b20 => ?_) (fun b20 => ?_)
            · refine mv_iinc (v := (i2_10 + 1)) (lv' := [(2, .int (i2_10 + 1)), (0, .ref o0), (1, .ref 16)]) d_TrustDeskModel_isWord_57 rfl rfl (by decide) rfl ?_
              refine mv_goto (tgt := 28) d_TrustDeskModel_isWord_60 (by decide) ?_
              have b21 : (i2_10 + 1).toInt = i2_10.toInt + 1 := mz_addn 1 1 (by decide) (by have := mz_lo i2_10; omega) (by have := mz_hi i2_10; omega)
              exact (ih10 (i2_10 + 1) T_10 M_10 n_10 I_10 h_q0_10 (by have := kKR_10.1 15 _ _ rfl; have := kKR_10.1 16 _ _ rfl; have := kKR_10.1 19 _ _ rfl; first | omega | decide | exact fun h9 => absurd (by decide) h9) (by have := kKR_10.1 15 _ _ rfl; have := kKR_10.1 16 _ _ rfl; have := kKR_10.1 19 _ _ rfl; first | omega | decide | exact fun h9 => absurd (by decide) h9) (by have := kKR_10.1 15 _ _ rfl; have := kKR_10.1 16 _ _ rfl; have := kKR_10.1 19 _ _ rfl; first | omega | decide | exact fun h9 => absurd (by decide) h9) (by have := kKR_10.1 15 _ _ rfl; have := kKR_10.1 16 _ _ rfl; have := kKR_10.1 19 _ _ rfl; first | omega | decide | exact fun h9 => absurd (by decide) h9) kKR_10 (by have := kKR_10.1 15 _ _ rfl; have := kKR_10.1 16 _ _ rfl; have := kKR_10.1 19 _ _ rfl; omega))
            · refine mv_iconst (v := 0) d_TrustDeskModel_isWord_55 (by decide) ?_
              exact mv_iret d_TrustDeskModel_isWord_56 rfl (by decide) ⟨_, I_10, _, rfl, by decide, by decide, kKR_10, (fun h => absurd h (by decide))⟩
      exact mv_less (Nat.zero_le _) (Nat.zero_le _) (L28_10 4294967296 0 T0 M0 n0 I0 h_o0 (by have := yR.1 15 _ _ rfl; have := yR.1 16 _ _ rfl; have := yR.1 19 _ _ rfl; first | omega | decide | exact fun h9 => absurd (by decide) h9) (by have := yR.1 15 _ _ rfl; have := yR.1 16 _ _ rfl; have := yR.1 19 _ _ rfl; first | omega | decide | exact fun h9 => absurd (by decide) h9) (by have := yR.1 15 _ _ rfl; have := yR.1 16 _ _ rfl; have := yR.1 19 _ _ rfl; first | omega | decide | exact fun h9 => absurd (by decide) h9) (by have := yR.1 15 _ _ rfl; have := yR.1 16 _ _ rfl; have := yR.1 19 _ _ rfl; first | omega | decide | exact fun h9 => absurd (by decide) h9) yR (by show (2147483647 - (0 : Int) : Int) < _; decide))
    · refine mv_iconst (v := 0) d_TrustDeskModel_isWord_24 (by decide) ?_
      exact mv_iret d_TrustDeskModel_isWord_25 rfl (by decide) ⟨_, I0, _, rfl, by decide, by decide, yR, (fun h => absurd h (by decide))⟩
theorem d_TrustDeskModel_ruleWord_35 : decode kY_TrustDeskModel_ruleWord.2.1 35 = .ok (.ifCond .eq 7, 3) := by decide +kernel
theorem d_TrustDeskModel_ruleWord_42 : decode kY_TrustDeskModel_ruleWord.2.1 42 = .ok (.aload_n 0, 1) := by decide +kernel
theorem d_TrustDeskModel_ruleWord_43 : decode kY_TrustDeskModel_ruleWord.2.1 43 = .ok (.ldc_w 357, 3) := by decide +kernel
theorem d_TrustDeskModel_ruleWord_46 : decode kY_TrustDeskModel_ruleWord.2.1 46 = .ok (.invokevirtual 244, 3) := by decide +kernel
def w_TrustDeskModel_isWord_s1_17_x : List Nat := []
theorem tc_TrustDeskModel_isWord_s1_17_x {g : mj_G} {l : Launch} {d : Nat} {T0 : tm_H} {M0 : mj_M} {n0 x9 : Nat} {o0 : Nat} (h_o0 : T0 o0 = some (0, 13, 0)) (yR : rI M0 o0) (I0 : tm_I tm_FT (tm_in w_TrustDeskModel_isWord_s1_17_x) x9 T0 M0 n0 T0 M0 n0) : mj_Met g l kY_TrustDeskModel_isWord (d + 4) [.ref o0, .ref 17] M0 n0 0 0 (tm_Q tm_FT (tm_in w_TrustDeskModel_isWord_s1_17_x) x9 T0 M0 n0 (fun r _ M => ∃ v : Int32, r = some (.int v) ∧ 0 ≤ v.toInt ∧ v.toInt ≤ 1 ∧ rI M o0 ∧ (v.toInt = 1 → rv M0 o0 17 = 3))) := by
  refine mj_enter (by decide) (Nat.le_of_ble_eq_true rfl) ?_
  refine mv_aload_n d_TrustDeskModel_isWord_0 rfl rfl ?_
  obtain ⟨v2, q1⟩ := tm_atI I0 h_o0 (k := 17) rfl
  refine tr_getK q1 d_TrustDeskModel_isWord_1 f_TrustDeskModel_198_13 ?_
  have := tm_rv q1
  refine mv_iconst (v := 3) d_TrustDeskModel_isWord_4 (by decide) ?_
  have := mz_hi v2
  refine mv_icmp_neZ (tgt := 24) (a := v2.toInt) (b := 3) d_TrustDeskModel_isWord_5 (by decide) rfl (by decide) (fun b3 => ?_) (fun b3 => ?_)
  · refine mv_iconst (v := 0) d_TrustDeskModel_isWord_24 (by decide) ?_
    exact mv_iret d_TrustDeskModel_isWord_25 rfl (by decide) ⟨_, I0, _, rfl, by decide, by decide, yR, (fun h => absurd h (by decide))⟩
  · refine mv_aload_n d_TrustDeskModel_isWord_8 rfl rfl ?_
    obtain ⟨v5, q4⟩ := tm_atI I0 h_o0 (k := 15) rfl
    refine tr_getK q4 d_TrustDeskModel_isWord_9 f_TrustDeskModel_192_13 ?_
    have := yR.f (k := 15) q4 rfl
    have := tm_rv q4
    refine mv_aload_n d_TrustDeskModel_isWord_12 rfl rfl ?_
    obtain ⟨v7, q6⟩ := tm_atI I0 h_o0 (k := 16) rfl
    refine tr_getK q6 d_TrustDeskModel_isWord_13 f_TrustDeskModel_195_13 ?_
    have := yR.f (k := 16) q6 rfl
    have := tm_rv q6
    refine mv_isub d_TrustDeskModel_isWord_16 ?_
    refine mv_aload_n d_TrustDeskModel_isWord_17 rfl rfl ?_
    refine mv_slenK (i := 7) (v := 4) d_TrustDeskModel_isWord_18 lV_TrustDeskModel_214 (by decide) rfl (by decide) (Nat.le_of_ble_eq_true rfl) ?_
    have b8 : (v5 - v7 : Int32).toInt = (v5.toInt - v7.toInt) := mz_sub2 rfl rfl (by have := yR.1 15 _ _ rfl; have := yR.1 16 _ _ rfl; have := yR.1 19 _ _ rfl; omega) (by have := yR.1 15 _ _ rfl; have := yR.1 16 _ _ rfl; have := yR.1 19 _ _ rfl; omega)
    have := mz_hi (v5 - v7)
    refine mv_icmp_eqZ (tgt := 26) (a := (v5 - v7).toInt) (b := 4) d_TrustDeskModel_isWord_21 (by decide) rfl (by decide) (fun b9 => ?_) (fun b9 => ?_)
    · refine mv_iconst (v := 0) d_TrustDeskModel_isWord_26 (by decide) ?_
      refine mv_istore_n (lv' := [(2, .int 0), (0, .ref o0), (1, .ref 17)]) d_TrustDeskModel_isWord_27 rfl (by decide) rfl ?_
      have L28_10 : ∀ (k : Nat) (i2_10 : Int32) (T_10 : tm_H) (M_10 : mj_M) (n_10 : Nat), tm_I tm_FT (tm_in w_TrustDeskModel_isWord_s1_17_x) x9 T0 M0 n0 T_10 M_10 n_10 → T_10 o0 = some (0, 13, 0) → 0 ≤ i2_10.toInt → rv M_10 o0 15 = rv M0 o0 15 → rv M_10 o0 16 = rv M0 o0 16 → i2_10.toInt ≤ 2147483646 → (rI M_10 o0) → 2147483647 - i2_10.toInt < (k : Int) → mj_V g l kY_TrustDeskModel_isWord (d + 4) 28 [(2, .int i2_10), (0, .ref o0), (1, .ref 17)] [] M_10 n_10 0 0 (tm_Q tm_FT (tm_in w_TrustDeskModel_isWord_s1_17_x) x9 T0 M0 n0 (fun r _ M => ∃ v : Int32, r = some (.int v) ∧ 0 ≤ v.toInt ∧ v.toInt ≤ 1 ∧ rI M o0 ∧ (v.toInt = 1 → rv M0 o0 17 = 3))) := by
        intro k10
        induction k10 with
        | zero =>
          intro i2_10 T_10 M_10 n_10 I_10 h_q0_10 iv0_10 iv1_10 iv2_10 iv3_10 kKR_10 hk10
          have := mz_hi i2_10
          have := kKR_10.1 15 _ _ rfl
          have := kKR_10.1 16 _ _ rfl
          have := kKR_10.1 19 _ _ rfl
          omega
        | succ k10 ih10 =>
          intro i2_10 T_10 M_10 n_10 I_10 h_q0_10 iv0_10 iv1_10 iv2_10 iv3_10 kKR_10 hk10
          refine mv_iload_n d_TrustDeskModel_isWord_28 rfl rfl ?_
          refine mv_aload_n d_TrustDeskModel_isWord_29 rfl rfl ?_
          refine mv_slenK (i := 7) (v := 4) d_TrustDeskModel_isWord_30 lV_TrustDeskModel_214 (by decide) rfl (by decide) (Nat.le_of_ble_eq_true rfl) ?_
          have := mz_hi i2_10
          refine mv_icmp_geZ (tgt := 63) (a := i2_10.toInt) (b := 4) d_TrustDeskModel_isWord_33 (by decide) rfl (by decide) (fun b11 => ?_) (fun b11 => ?_)
          · refine mv_iconst (v := 1) d_TrustDeskModel_isWord_63 (by decide) ?_
            exact mv_iret d_TrustDeskModel_isWord_64 rfl (by decide) ⟨_, I_10, _, rfl, by decide, by decide, kKR_10, (fun _ => by omega)⟩
          · refine mv_aload_n d_TrustDeskModel_isWord_36 rfl rfl ?_
            obtain ⟨a13, q12, t_a13⟩ := tm_atR I_10 h_q0_10 (k := 13) rfl
            refine tr_getK q12 d_TrustDeskModel_isWord_37 f_TrustDeskModel_44_13 ?_
            refine mv_aload_n d_TrustDeskModel_isWord_40 rfl rfl ?_
            obtain ⟨v15, q14⟩ := tm_atI I_10 h_q0_10 (k := 16) rfl
            refine tr_getK q14 d_TrustDeskModel_isWord_41 f_TrustDeskModel_195_13 ?_
            have := kKR_10.f (k := 16) q14 rfl
            have := tm_rv q14
            refine mv_iload_n d_TrustDeskModel_isWord_44 rfl rfl ?_
            refine mv_iadd d_TrustDeskModel_isWord_45 ?_
            have b16 : (v15 + i2_10 : Int32).toInt = (v15.toInt + i2_10.toInt) := mz_add2 rfl rfl (by have := kKR_10.1 15 _ _ rfl; have := kKR_10.1 16 _ _ rfl; have := kKR_10.1 19 _ _ rfl; omega) (by have := kKR_10.1 15 _ _ rfl; have := kKR_10.1 16 _ _ rfl; have := kKR_10.1 19 _ _ rfl; omega)
            refine tr_baldR (o := o0) (k := 13) I_10 q12 t_a13 (by decide) d_TrustDeskModel_isWord_46 (vp_in_iff.mpr (by have := kKR_10.1 15 _ _ rfl; have := kKR_10.1 16 _ _ rfl; have := kKR_10.1 19 _ _ rfl; omega)) (fun v17 e18 => ?_)
            have := kKR_10.a (k := 13) rfl ((v15 + i2_10) : Int32).toNatClampNeg
            refine mv_aload_n d_TrustDeskModel_isWord_47 rfl rfl ?_
            refine mv_iload_n d_TrustDeskModel_isWord_48 rfl rfl ?_
            refine mv_schN (i := 7) (N := 4) d_TrustDeskModel_isWord_49 lV_TrustDeskModel_220 (by decide) rfl rfl (by omega) (by omega) (Nat.le_of_ble_eq_true rfl) (fun v19 => ?_)
            have := mz_hi v17
            have := mz_hi v19
            refine mv_icmp_eqZ (tgt := 57) (a := v17.toInt) (b := v19.toInt) d_TrustDeskModel_isWord_52 (by decide) rfl rfl (fun b20 => ?_) (fun b20 => ?_)
            · refine mv_iinc (v := (i2_10 + 1)) (lv' := [(2, .int (i2_10 + 1)), (0, .ref o0), (1, .ref 17)]) d_TrustDeskModel_isWord_57 rfl rfl (by decide) rfl ?_
              refine mv_goto (tgt := 28) d_TrustDeskModel_isWord_60 (by decide) ?_
              have b21 : (i2_10 + 1).toInt = i2_10.toInt + 1 := mz_addn 1 1 (by decide) (by have := mz_lo i2_10; omega) (by have := mz_hi i2_10; omega)
              exact (ih10 (i2_10 + 1) T_10 M_10 n_10 I_10 h_q0_10 (by have := kKR_10.1 15 _ _ rfl; have := kKR_10.1 16 _ _ rfl; have := kKR_10.1 19 _ _ rfl; first | omega | decide | exact fun h9 => absurd (by decide) h9) (by have := kKR_10.1 15 _ _ rfl; have := kKR_10.1 16 _ _ rfl; have := kKR_10.1 19 _ _ rfl; first | omega | decide | exact fun h9 => absurd (by decide) h9) (by have := kKR_10.1 15 _ _ rfl; have := kKR_10.1 16 _ _ rfl; have := kKR_10.1 19 _ _ rfl; first | omega | decide | exact fun h9 => absurd (by decide) h9) (by have := kKR_10.1 15 _ _ rfl; have := kKR_10.1 16 _ _ rfl; have := kKR_10.1 19 _ _ rfl; first | omega | decide | exact fun h9 => absurd (by decide) h9) kKR_10 (by have := kKR_10.1 15 _ _ rfl; have := kKR_10.1 16 _ _ rfl; have := kKR_10.1 19 _ _ rfl; omega))
            · refine mv_iconst (v := 0) d_TrustDeskModel_isWord_55 (by decide) ?_
              exact mv_iret d_TrustDeskModel_isWord_56 rfl (by decide) ⟨_, I_10, _, rfl, by decide, by decide, kKR_10, (fun h => absurd h (by decide))⟩
      exact mv_less (Nat.zero_le _) (Nat.zero_le _) (L28_10 4294967296 0 T0 M0 n0 I0 h_o0 (by have := yR.1 15 _ _ rfl; have := yR.1 16 _ _ rfl; have := yR.1 19 _ _ rfl; first | omega | decide | exact fun h9 => absurd (by decide) h9) (by have := yR.1 15 _ _ rfl; have := yR.1 16 _ _ rfl; have := yR.1 19 _ _ rfl; first | omega | decide | exact fun h9 => absurd (by decide) h9) (by have := yR.1 15 _ _ rfl; have := yR.1 16 _ _ rfl; have := yR.1 19 _ _ rfl; first | omega | decide | exact fun h9 => absurd (by decide) h9) (by have := yR.1 15 _ _ rfl; have := yR.1 16 _ _ rfl; have := yR.1 19 _ _ rfl; first | omega | decide | exact fun h9 => absurd (by decide) h9) yR (by show (2147483647 - (0 : Int) : Int) < _; decide))
    · refine mv_iconst (v := 0) d_TrustDeskModel_isWord_24 (by decide) ?_
      exact mv_iret d_TrustDeskModel_isWord_25 rfl (by decide) ⟨_, I0, _, rfl, by decide, by decide, yR, (fun h => absurd h (by decide))⟩
theorem d_TrustDeskModel_ruleWord_49 : decode kY_TrustDeskModel_ruleWord.2.1 49 = .ok (.ifCond .eq 7, 3) := by decide +kernel
theorem d_TrustDeskModel_ruleWord_56 : decode kY_TrustDeskModel_ruleWord.2.1 56 = .ok (.aload_n 0, 1) := by decide +kernel
theorem d_TrustDeskModel_ruleWord_57 : decode kY_TrustDeskModel_ruleWord.2.1 57 = .ok (.ldc_w 359, 3) := by decide +kernel
theorem d_TrustDeskModel_ruleWord_60 : decode kY_TrustDeskModel_ruleWord.2.1 60 = .ok (.invokevirtual 244, 3) := by decide +kernel
def w_TrustDeskModel_isWord_s1_18_x : List Nat := []
theorem tc_TrustDeskModel_isWord_s1_18_x {g : mj_G} {l : Launch} {d : Nat} {T0 : tm_H} {M0 : mj_M} {n0 x9 : Nat} {o0 : Nat} (h_o0 : T0 o0 = some (0, 13, 0)) (yR : rI M0 o0) (I0 : tm_I tm_FT (tm_in w_TrustDeskModel_isWord_s1_18_x) x9 T0 M0 n0 T0 M0 n0) : mj_Met g l kY_TrustDeskModel_isWord (d + 4) [.ref o0, .ref 18] M0 n0 0 0 (tm_Q tm_FT (tm_in w_TrustDeskModel_isWord_s1_18_x) x9 T0 M0 n0 (fun r _ M => ∃ v : Int32, r = some (.int v) ∧ 0 ≤ v.toInt ∧ v.toInt ≤ 1 ∧ rI M o0 ∧ (v.toInt = 1 → rv M0 o0 17 = 3))) := by
  refine mj_enter (by decide) (Nat.le_of_ble_eq_true rfl) ?_
  refine mv_aload_n d_TrustDeskModel_isWord_0 rfl rfl ?_
  obtain ⟨v2, q1⟩ := tm_atI I0 h_o0 (k := 17) rfl
  refine tr_getK q1 d_TrustDeskModel_isWord_1 f_TrustDeskModel_198_13 ?_
  have := tm_rv q1
  refine mv_iconst (v := 3) d_TrustDeskModel_isWord_4 (by decide) ?_
  have := mz_hi v2
  refine mv_icmp_neZ (tgt := 24) (a := v2.toInt) (b := 3) d_TrustDeskModel_isWord_5 (by decide) rfl (by decide) (fun b3 => ?_) (fun b3 => ?_)
  · refine mv_iconst (v := 0) d_TrustDeskModel_isWord_24 (by decide) ?_
    exact mv_iret d_TrustDeskModel_isWord_25 rfl (by decide) ⟨_, I0, _, rfl, by decide, by decide, yR, (fun h => absurd h (by decide))⟩
  · refine mv_aload_n d_TrustDeskModel_isWord_8 rfl rfl ?_
    obtain ⟨v5, q4⟩ := tm_atI I0 h_o0 (k := 15) rfl
    refine tr_getK q4 d_TrustDeskModel_isWord_9 f_TrustDeskModel_192_13 ?_
    have := yR.f (k := 15) q4 rfl
    have := tm_rv q4
    refine mv_aload_n d_TrustDeskModel_isWord_12 rfl rfl ?_
    obtain ⟨v7, q6⟩ := tm_atI I0 h_o0 (k := 16) rfl
    refine tr_getK q6 d_TrustDeskModel_isWord_13 f_TrustDeskModel_195_13 ?_
    have := yR.f (k := 16) q6 rfl
    have := tm_rv q6
    refine mv_isub d_TrustDeskModel_isWord_16 ?_
    refine mv_aload_n d_TrustDeskModel_isWord_17 rfl rfl ?_
    refine mv_slenK (i := 8) (v := 4) d_TrustDeskModel_isWord_18 lV_TrustDeskModel_214 (by decide) rfl (by decide) (Nat.le_of_ble_eq_true rfl) ?_
    have b8 : (v5 - v7 : Int32).toInt = (v5.toInt - v7.toInt) := mz_sub2 rfl rfl (by have := yR.1 15 _ _ rfl; have := yR.1 16 _ _ rfl; have := yR.1 19 _ _ rfl; omega) (by have := yR.1 15 _ _ rfl; have := yR.1 16 _ _ rfl; have := yR.1 19 _ _ rfl; omega)
    have := mz_hi (v5 - v7)
    refine mv_icmp_eqZ (tgt := 26) (a := (v5 - v7).toInt) (b := 4) d_TrustDeskModel_isWord_21 (by decide) rfl (by decide) (fun b9 => ?_) (fun b9 => ?_)
    · refine mv_iconst (v := 0) d_TrustDeskModel_isWord_26 (by decide) ?_
      refine mv_istore_n (lv' := [(2, .int 0), (0, .ref o0), (1, .ref 18)]) d_TrustDeskModel_isWord_27 rfl (by decide) rfl ?_
      have L28_10 : ∀ (k : Nat) (i2_10 : Int32) (T_10 : tm_H) (M_10 : mj_M) (n_10 : Nat), tm_I tm_FT (tm_in w_TrustDeskModel_isWord_s1_18_x) x9 T0 M0 n0 T_10 M_10 n_10 → T_10 o0 = some (0, 13, 0) → 0 ≤ i2_10.toInt → rv M_10 o0 15 = rv M0 o0 15 → rv M_10 o0 16 = rv M0 o0 16 → i2_10.toInt ≤ 2147483646 → (rI M_10 o0) → 2147483647 - i2_10.toInt < (k : Int) → mj_V g l kY_TrustDeskModel_isWord (d + 4) 28 [(2, .int i2_10), (0, .ref o0), (1, .ref 18)] [] M_10 n_10 0 0 (tm_Q tm_FT (tm_in w_TrustDeskModel_isWord_s1_18_x) x9 T0 M0 n0 (fun r _ M => ∃ v : Int32, r = some (.int v) ∧ 0 ≤ v.toInt ∧ v.toInt ≤ 1 ∧ rI M o0 ∧ (v.toInt = 1 → rv M0 o0 17 = 3))) := by
        intro k10
        induction k10 with
        | zero =>
          intro i2_10 T_10 M_10 n_10 I_10 h_q0_10 iv0_10 iv1_10 iv2_10 iv3_10 kKR_10 hk10
          have := mz_hi i2_10
          have := kKR_10.1 15 _ _ rfl
          have := kKR_10.1 16 _ _ rfl
          have := kKR_10.1 19 _ _ rfl
          omega
        | succ k10 ih10 =>
          intro i2_10 T_10 M_10 n_10 I_10 h_q0_10 iv0_10 iv1_10 iv2_10 iv3_10 kKR_10 hk10
          refine mv_iload_n d_TrustDeskModel_isWord_28 rfl rfl ?_
          refine mv_aload_n d_TrustDeskModel_isWord_29 rfl rfl ?_
          refine mv_slenK (i := 8) (v := 4) d_TrustDeskModel_isWord_30 lV_TrustDeskModel_214 (by decide) rfl (by decide) (Nat.le_of_ble_eq_true rfl) ?_
          have := mz_hi i2_10
          refine mv_icmp_geZ (tgt := 63) (a := i2_10.toInt) (b := 4) d_TrustDeskModel_isWord_33 (by decide) rfl (by decide) (fun b11 => ?_) (fun b11 => ?_)
          · refine mv_iconst (v := 1) d_TrustDeskModel_isWord_63 (by decide) ?_
            exact mv_iret d_TrustDeskModel_isWord_64 rfl (by decide) ⟨_, I_10, _, rfl, by decide, by decide, kKR_10, (fun _ => by omega)⟩
          · refine mv_aload_n d_TrustDeskModel_isWord_36 rfl rfl ?_
            obtain ⟨a13, q12, t_a13⟩ := tm_atR I_10 h_q0_10 (k := 13) rfl
            refine tr_getK q12 d_TrustDeskModel_isWord_37 f_TrustDeskModel_44_13 ?_
            refine mv_aload_n d_TrustDeskModel_isWord_40 rfl rfl ?_
            obtain ⟨v15, q14⟩ := tm_atI I_10 h_q0_10 (k := 16) rfl
            refine tr_getK q14 d_TrustDeskModel_isWord_41 f_TrustDeskModel_195_13 ?_
            have := kKR_10.f (k := 16) q14 rfl
            have := tm_rv q14
            refine mv_iload_n d_TrustDeskModel_isWord_44 rfl rfl ?_
            refine mv_iadd d_TrustDeskModel_isWord_45 ?_
            have b16 : (v15 + i2_10 : Int32).toInt = (v15.toInt + i2_10.toInt) := mz_add2 rfl rfl (by have := kKR_10.1 15 _ _ rfl; have := kKR_10.1 16 _ _ rfl; have := kKR_10.1 19 _ _ rfl; omega) (by have := kKR_10.1 15 _ _ rfl; have := kKR_10.1 16 _ _ rfl; have := kKR_10.1 19 _ _ rfl; omega)
            refine tr_baldR (o := o0) (k := 13) I_10 q12 t_a13 (by decide) d_TrustDeskModel_isWord_46 (vp_in_iff.mpr (by have := kKR_10.1 15 _ _ rfl; have := kKR_10.1 16 _ _ rfl; have := kKR_10.1 19 _ _ rfl; omega)) (fun v17 e18 => ?_)
            have := kKR_10.a (k := 13) rfl ((v15 + i2_10) : Int32).toNatClampNeg
            refine mv_aload_n d_TrustDeskModel_isWord_47 rfl rfl ?_
            refine mv_iload_n d_TrustDeskModel_isWord_48 rfl rfl ?_
            refine mv_schN (i := 8) (N := 4) d_TrustDeskModel_isWord_49 lV_TrustDeskModel_220 (by decide) rfl rfl (by omega) (by omega) (Nat.le_of_ble_eq_true rfl) (fun v19 => ?_)
            have := mz_hi v17
            have := mz_hi v19
            refine mv_icmp_eqZ (tgt := 57) (a := v17.toInt) (b := v19.toInt) d_TrustDeskModel_isWord_52 (by decide) rfl rfl (fun b20 => ?_) (fun b20 => ?_)
            · refine mv_iinc (v := (i2_10 + 1)) (lv' := [(2, .int (i2_10 + 1)), (0, .ref o0), (1, .ref 18)]) d_TrustDeskModel_isWord_57 rfl rfl (by decide) rfl ?_
              refine mv_goto (tgt := 28) d_TrustDeskModel_isWord_60 (by decide) ?_
              have b21 : (i2_10 + 1).toInt = i2_10.toInt + 1 := mz_addn 1 1 (by decide) (by have := mz_lo i2_10; omega) (by have := mz_hi i2_10; omega)
              exact (ih10 (i2_10 + 1) T_10 M_10 n_10 I_10 h_q0_10 (by have := kKR_10.1 15 _ _ rfl; have := kKR_10.1 16 _ _ rfl; have := kKR_10.1 19 _ _ rfl; first | omega | decide | exact fun h9 => absurd (by decide) h9) (by have := kKR_10.1 15 _ _ rfl; have := kKR_10.1 16 _ _ rfl; have := kKR_10.1 19 _ _ rfl; first | omega | decide | exact fun h9 => absurd (by decide) h9) (by have := kKR_10.1 15 _ _ rfl; have := kKR_10.1 16 _ _ rfl; have := kKR_10.1 19 _ _ rfl; first | omega | decide | exact fun h9 => absurd (by decide) h9) (by have := kKR_10.1 15 _ _ rfl; have := kKR_10.1 16 _ _ rfl; have := kKR_10.1 19 _ _ rfl; first | omega | decide | exact fun h9 => absurd (by decide) h9) kKR_10 (by have := kKR_10.1 15 _ _ rfl; have := kKR_10.1 16 _ _ rfl; have := kKR_10.1 19 _ _ rfl; omega))
            · refine mv_iconst (v := 0) d_TrustDeskModel_isWord_55 (by decide) ?_
              exact mv_iret d_TrustDeskModel_isWord_56 rfl (by decide) ⟨_, I_10, _, rfl, by decide, by decide, kKR_10, (fun h => absurd h (by decide))⟩
      exact mv_less (Nat.zero_le _) (Nat.zero_le _) (L28_10 4294967296 0 T0 M0 n0 I0 h_o0 (by have := yR.1 15 _ _ rfl; have := yR.1 16 _ _ rfl; have := yR.1 19 _ _ rfl; first | omega | decide | exact fun h9 => absurd (by decide) h9) (by have := yR.1 15 _ _ rfl; have := yR.1 16 _ _ rfl; have := yR.1 19 _ _ rfl; first | omega | decide | exact fun h9 => absurd (by decide) h9) (by have := yR.1 15 _ _ rfl; have := yR.1 16 _ _ rfl; have := yR.1 19 _ _ rfl; first | omega | decide | exact fun h9 => absurd (by decide) h9) (by have := yR.1 15 _ _ rfl; have := yR.1 16 _ _ rfl; have := yR.1 19 _ _ rfl; first | omega | decide | exact fun h9 => absurd (by decide) h9) yR (by show (2147483647 - (0 : Int) : Int) < _; decide))
    · refine mv_iconst (v := 0) d_TrustDeskModel_isWord_24 (by decide) ?_
      exact mv_iret d_TrustDeskModel_isWord_25 rfl (by decide) ⟨_, I0, _, rfl, by decide, by decide, yR, (fun h => absurd h (by decide))⟩
theorem d_TrustDeskModel_ruleWord_63 : decode kY_TrustDeskModel_ruleWord.2.1 63 = .ok (.ifCond .eq 7, 3) := by decide +kernel
theorem d_TrustDeskModel_ruleWord_70 : decode kY_TrustDeskModel_ruleWord.2.1 70 = .ok (.aload_n 0, 1) := by decide +kernel
theorem d_TrustDeskModel_ruleWord_71 : decode kY_TrustDeskModel_ruleWord.2.1 71 = .ok (.ldc_w 361, 3) := by decide +kernel
theorem d_TrustDeskModel_ruleWord_74 : decode kY_TrustDeskModel_ruleWord.2.1 74 = .ok (.invokevirtual 244, 3) := by decide +kernel
def w_TrustDeskModel_isWord_s1_19_x : List Nat := []
theorem tc_TrustDeskModel_isWord_s1_19_x {g : mj_G} {l : Launch} {d : Nat} {T0 : tm_H} {M0 : mj_M} {n0 x9 : Nat} {o0 : Nat} (h_o0 : T0 o0 = some (0, 13, 0)) (yR : rI M0 o0) (I0 : tm_I tm_FT (tm_in w_TrustDeskModel_isWord_s1_19_x) x9 T0 M0 n0 T0 M0 n0) : mj_Met g l kY_TrustDeskModel_isWord (d + 4) [.ref o0, .ref 19] M0 n0 0 0 (tm_Q tm_FT (tm_in w_TrustDeskModel_isWord_s1_19_x) x9 T0 M0 n0 (fun r _ M => ∃ v : Int32, r = some (.int v) ∧ 0 ≤ v.toInt ∧ v.toInt ≤ 1 ∧ rI M o0 ∧ (v.toInt = 1 → rv M0 o0 17 = 3))) := by
  refine mj_enter (by decide) (Nat.le_of_ble_eq_true rfl) ?_
  refine mv_aload_n d_TrustDeskModel_isWord_0 rfl rfl ?_
  obtain ⟨v2, q1⟩ := tm_atI I0 h_o0 (k := 17) rfl
  refine tr_getK q1 d_TrustDeskModel_isWord_1 f_TrustDeskModel_198_13 ?_
  have := tm_rv q1
  refine mv_iconst (v := 3) d_TrustDeskModel_isWord_4 (by decide) ?_
  have := mz_hi v2
  refine mv_icmp_neZ (tgt := 24) (a := v2.toInt) (b := 3) d_TrustDeskModel_isWord_5 (by decide) rfl (by decide) (fun b3 => ?_) (fun b3 => ?_)
  · refine mv_iconst (v := 0) d_TrustDeskModel_isWord_24 (by decide) ?_
    exact mv_iret d_TrustDeskModel_isWord_25 rfl (by decide) ⟨_, I0, _, rfl, by decide, by decide, yR, (fun h => absurd h (by decide))⟩
  · refine mv_aload_n d_TrustDeskModel_isWord_8 rfl rfl ?_
    obtain ⟨v5, q4⟩ := tm_atI I0 h_o0 (k := 15) rfl
    refine tr_getK q4 d_TrustDeskModel_isWord_9 f_TrustDeskModel_192_13 ?_
    have := yR.f (k := 15) q4 rfl
    have := tm_rv q4
    refine mv_aload_n d_TrustDeskModel_isWord_12 rfl rfl ?_
    obtain ⟨v7, q6⟩ := tm_atI I0 h_o0 (k := 16) rfl
    refine tr_getK q6 d_TrustDeskModel_isWord_13 f_TrustDeskModel_195_13 ?_
    have := yR.f (k := 16) q6 rfl
    have := tm_rv q6
    refine mv_isub d_TrustDeskModel_isWord_16 ?_
    refine mv_aload_n d_TrustDeskModel_isWord_17 rfl rfl ?_
    refine mv_slenK (i := 9) (v := 4) d_TrustDeskModel_isWord_18 lV_TrustDeskModel_214 (by decide) rfl (by decide) (Nat.le_of_ble_eq_true rfl) ?_
    have b8 : (v5 - v7 : Int32).toInt = (v5.toInt - v7.toInt) := mz_sub2 rfl rfl (by have := yR.1 15 _ _ rfl; have := yR.1 16 _ _ rfl; have := yR.1 19 _ _ rfl; omega) (by have := yR.1 15 _ _ rfl; have := yR.1 16 _ _ rfl; have := yR.1 19 _ _ rfl; omega)
    have := mz_hi (v5 - v7)
    refine mv_icmp_eqZ (tgt := 26) (a := (v5 - v7).toInt) (b := 4) d_TrustDeskModel_isWord_21 (by decide) rfl (by decide) (fun b9 => ?_) (fun b9 => ?_)
    · refine mv_iconst (v := 0) d_TrustDeskModel_isWord_26 (by decide) ?_
      refine mv_istore_n (lv' := [(2, .int 0), (0, .ref o0), (1, .ref 19)]) d_TrustDeskModel_isWord_27 rfl (by decide) rfl ?_
      have L28_10 : ∀ (k : Nat) (i2_10 : Int32) (T_10 : tm_H) (M_10 : mj_M) (n_10 : Nat), tm_I tm_FT (tm_in w_TrustDeskModel_isWord_s1_19_x) x9 T0 M0 n0 T_10 M_10 n_10 → T_10 o0 = some (0, 13, 0) → 0 ≤ i2_10.toInt → rv M_10 o0 15 = rv M0 o0 15 → rv M_10 o0 16 = rv M0 o0 16 → i2_10.toInt ≤ 2147483646 → (rI M_10 o0) → 2147483647 - i2_10.toInt < (k : Int) → mj_V g l kY_TrustDeskModel_isWord (d + 4) 28 [(2, .int i2_10), (0, .ref o0), (1, .ref 19)] [] M_10 n_10 0 0 (tm_Q tm_FT (tm_in w_TrustDeskModel_isWord_s1_19_x) x9 T0 M0 n0 (fun r _ M => ∃ v : Int32, r = some (.int v) ∧ 0 ≤ v.toInt ∧ v.toInt ≤ 1 ∧ rI M o0 ∧ (v.toInt = 1 → rv M0 o0 17 = 3))) := by
        intro k10
        induction k10 with
        | zero =>
          intro i2_10 T_10 M_10 n_10 I_10 h_q0_10 iv0_10 iv1_10 iv2_10 iv3_10 kKR_10 hk10
          have := mz_hi i2_10
          have := kKR_10.1 15 _ _ rfl
          have := kKR_10.1 16 _ _ rfl
          have := kKR_10.1 19 _ _ rfl
          omega
        | succ k10 ih10 =>
          intro i2_10 T_10 M_10 n_10 I_10 h_q0_10 iv0_10 iv1_10 iv2_10 iv3_10 kKR_10 hk10
          refine mv_iload_n d_TrustDeskModel_isWord_28 rfl rfl ?_
          refine mv_aload_n d_TrustDeskModel_isWord_29 rfl rfl ?_
          refine mv_slenK (i := 9) (v := 4) d_TrustDeskModel_isWord_30 lV_TrustDeskModel_214 (by decide) rfl (by decide) (Nat.le_of_ble_eq_true rfl) ?_
          have := mz_hi i2_10
          refine mv_icmp_geZ (tgt := 63) (a := i2_10.toInt) (b := 4) d_TrustDeskModel_isWord_33 (by decide) rfl (by decide) (fun b11 => ?_) (fun b11 => ?_)
          · refine mv_iconst (v := 1) d_TrustDeskModel_isWord_63 (by decide) ?_
            exact mv_iret d_TrustDeskModel_isWord_64 rfl (by decide) ⟨_, I_10, _, rfl, by decide, by decide, kKR_10, (fun _ => by omega)⟩
          · refine mv_aload_n d_TrustDeskModel_isWord_36 rfl rfl ?_
            obtain ⟨a13, q12, t_a13⟩ := tm_atR I_10 h_q0_10 (k := 13) rfl
            refine tr_getK q12 d_TrustDeskModel_isWord_37 f_TrustDeskModel_44_13 ?_
            refine mv_aload_n d_TrustDeskModel_isWord_40 rfl rfl ?_
            obtain ⟨v15, q14⟩ := tm_atI I_10 h_q0_10 (k := 16) rfl
            refine tr_getK q14 d_TrustDeskModel_isWord_41 f_TrustDeskModel_195_13 ?_
            have := kKR_10.f (k := 16) q14 rfl
            have := tm_rv q14
            refine mv_iload_n d_TrustDeskModel_isWord_44 rfl rfl ?_
            refine mv_iadd d_TrustDeskModel_isWord_45 ?_
            have b16 : (v15 + i2_10 : Int32).toInt = (v15.toInt + i2_10.toInt) := mz_add2 rfl rfl (by have := kKR_10.1 15 _ _ rfl; have := kKR_10.1 16 _ _ rfl; have := kKR_10.1 19 _ _ rfl; omega) (by have := kKR_10.1 15 _ _ rfl; have := kKR_10.1 16 _ _ rfl; have := kKR_10.1 19 _ _ rfl; omega)
            refine tr_baldR (o := o0) (k := 13) I_10 q12 t_a13 (by decide) d_TrustDeskModel_isWord_46 (vp_in_iff.mpr (by have := kKR_10.1 15 _ _ rfl; have := kKR_10.1 16 _ _ rfl; have := kKR_10.1 19 _ _ rfl; omega)) (fun v17 e18 => ?_)
            have := kKR_10.a (k := 13) rfl ((v15 + i2_10) : Int32).toNatClampNeg
            refine mv_aload_n d_TrustDeskModel_isWord_47 rfl rfl ?_
            refine mv_iload_n d_TrustDeskModel_isWord_48 rfl rfl ?_
            refine mv_schN (i := 9) (N := 4) d_TrustDeskModel_isWord_49 lV_TrustDeskModel_220 (by decide) rfl rfl (by omega) (by omega) (Nat.le_of_ble_eq_true rfl) (fun v19 => ?_)
            have := mz_hi v17
            have := mz_hi v19
            refine mv_icmp_eqZ (tgt := 57) (a := v17.toInt) (b := v19.toInt) d_TrustDeskModel_isWord_52 (by decide) rfl rfl (fun b20 => ?_) (fun b20 => ?_)
            · refine mv_iinc (v := (i2_10 + 1)) (lv' := [(2, .int (i2_10 + 1)), (0, .ref o0), (1, .ref 19)]) d_TrustDeskModel_isWord_57 rfl rfl (by decide) rfl ?_
              refine mv_goto (tgt := 28) d_TrustDeskModel_isWord_60 (by decide) ?_
              have b21 : (i2_10 + 1).toInt = i2_10.toInt + 1 := mz_addn 1 1 (by decide) (by have := mz_lo i2_10; omega) (by have := mz_hi i2_10; omega)
              exact (ih10 (i2_10 + 1) T_10 M_10 n_10 I_10 h_q0_10 (by have := kKR_10.1 15 _ _ rfl; have := kKR_10.1 16 _ _ rfl; have := kKR_10.1 19 _ _ rfl; first | omega | decide | exact fun h9 => absurd (by decide) h9) (by have := kKR_10.1 15 _ _ rfl; have := kKR_10.1 16 _ _ rfl; have := kKR_10.1 19 _ _ rfl; first | omega | decide | exact fun h9 => absurd (by decide) h9) (by have := kKR_10.1 15 _ _ rfl; have := kKR_10.1 16 _ _ rfl; have := kKR_10.1 19 _ _ rfl; first | omega | decide | exact fun h9 => absurd (by decide) h9) (by have := kKR_10.1 15 _ _ rfl; have := kKR_10.1 16 _ _ rfl; have := kKR_10.1 19 _ _ rfl; first | omega | decide | exact fun h9 => absurd (by decide) h9) kKR_10 (by have := kKR_10.1 15 _ _ rfl; have := kKR_10.1 16 _ _ rfl; have := kKR_10.1 19 _ _ rfl; omega))
            · refine mv_iconst (v := 0) d_TrustDeskModel_isWord_55 (by decide) ?_
              exact mv_iret d_TrustDeskModel_isWord_56 rfl (by decide) ⟨_, I_10, _, rfl, by decide, by decide, kKR_10, (fun h => absurd h (by decide))⟩
      exact mv_less (Nat.zero_le _) (Nat.zero_le _) (L28_10 4294967296 0 T0 M0 n0 I0 h_o0 (by have := yR.1 15 _ _ rfl; have := yR.1 16 _ _ rfl; have := yR.1 19 _ _ rfl; first | omega | decide | exact fun h9 => absurd (by decide) h9) (by have := yR.1 15 _ _ rfl; have := yR.1 16 _ _ rfl; have := yR.1 19 _ _ rfl; first | omega | decide | exact fun h9 => absurd (by decide) h9) (by have := yR.1 15 _ _ rfl; have := yR.1 16 _ _ rfl; have := yR.1 19 _ _ rfl; first | omega | decide | exact fun h9 => absurd (by decide) h9) (by have := yR.1 15 _ _ rfl; have := yR.1 16 _ _ rfl; have := yR.1 19 _ _ rfl; first | omega | decide | exact fun h9 => absurd (by decide) h9) yR (by show (2147483647 - (0 : Int) : Int) < _; decide))
    · refine mv_iconst (v := 0) d_TrustDeskModel_isWord_24 (by decide) ?_
      exact mv_iret d_TrustDeskModel_isWord_25 rfl (by decide) ⟨_, I0, _, rfl, by decide, by decide, yR, (fun h => absurd h (by decide))⟩
theorem d_TrustDeskModel_ruleWord_77 : decode kY_TrustDeskModel_ruleWord.2.1 77 = .ok (.ifCond .eq 7, 3) := by decide +kernel
theorem d_TrustDeskModel_ruleWord_84 : decode kY_TrustDeskModel_ruleWord.2.1 84 = .ok (.aload_n 0, 1) := by decide +kernel
theorem d_TrustDeskModel_ruleWord_85 : decode kY_TrustDeskModel_ruleWord.2.1 85 = .ok (.ldc_w 363, 3) := by decide +kernel
theorem d_TrustDeskModel_ruleWord_88 : decode kY_TrustDeskModel_ruleWord.2.1 88 = .ok (.invokevirtual 244, 3) := by decide +kernel
def w_TrustDeskModel_isWord_s1_20_x : List Nat := []
theorem tc_TrustDeskModel_isWord_s1_20_x {g : mj_G} {l : Launch} {d : Nat} {T0 : tm_H} {M0 : mj_M} {n0 x9 : Nat} {o0 : Nat} (h_o0 : T0 o0 = some (0, 13, 0)) (yR : rI M0 o0) (I0 : tm_I tm_FT (tm_in w_TrustDeskModel_isWord_s1_20_x) x9 T0 M0 n0 T0 M0 n0) : mj_Met g l kY_TrustDeskModel_isWord (d + 4) [.ref o0, .ref 20] M0 n0 0 0 (tm_Q tm_FT (tm_in w_TrustDeskModel_isWord_s1_20_x) x9 T0 M0 n0 (fun r _ M => ∃ v : Int32, r = some (.int v) ∧ 0 ≤ v.toInt ∧ v.toInt ≤ 1 ∧ rI M o0 ∧ (v.toInt = 1 → rv M0 o0 17 = 3))) := by
  refine mj_enter (by decide) (Nat.le_of_ble_eq_true rfl) ?_
  refine mv_aload_n d_TrustDeskModel_isWord_0 rfl rfl ?_
  obtain ⟨v2, q1⟩ := tm_atI I0 h_o0 (k := 17) rfl
  refine tr_getK q1 d_TrustDeskModel_isWord_1 f_TrustDeskModel_198_13 ?_
  have := tm_rv q1
  refine mv_iconst (v := 3) d_TrustDeskModel_isWord_4 (by decide) ?_
  have := mz_hi v2
  refine mv_icmp_neZ (tgt := 24) (a := v2.toInt) (b := 3) d_TrustDeskModel_isWord_5 (by decide) rfl (by decide) (fun b3 => ?_) (fun b3 => ?_)
  · refine mv_iconst (v := 0) d_TrustDeskModel_isWord_24 (by decide) ?_
    exact mv_iret d_TrustDeskModel_isWord_25 rfl (by decide) ⟨_, I0, _, rfl, by decide, by decide, yR, (fun h => absurd h (by decide))⟩
  · refine mv_aload_n d_TrustDeskModel_isWord_8 rfl rfl ?_
    obtain ⟨v5, q4⟩ := tm_atI I0 h_o0 (k := 15) rfl
    refine tr_getK q4 d_TrustDeskModel_isWord_9 f_TrustDeskModel_192_13 ?_
    have := yR.f (k := 15) q4 rfl
    have := tm_rv q4
    refine mv_aload_n d_TrustDeskModel_isWord_12 rfl rfl ?_
    obtain ⟨v7, q6⟩ := tm_atI I0 h_o0 (k := 16) rfl
    refine tr_getK q6 d_TrustDeskModel_isWord_13 f_TrustDeskModel_195_13 ?_
    have := yR.f (k := 16) q6 rfl
    have := tm_rv q6
    refine mv_isub d_TrustDeskModel_isWord_16 ?_
    refine mv_aload_n d_TrustDeskModel_isWord_17 rfl rfl ?_
    refine mv_slenK (i := 10) (v := 3) d_TrustDeskModel_isWord_18 lV_TrustDeskModel_214 (by decide) rfl (by decide) (Nat.le_of_ble_eq_true rfl) ?_
    have b8 : (v5 - v7 : Int32).toInt = (v5.toInt - v7.toInt) := mz_sub2 rfl rfl (by have := yR.1 15 _ _ rfl; have := yR.1 16 _ _ rfl; have := yR.1 19 _ _ rfl; omega) (by have := yR.1 15 _ _ rfl; have := yR.1 16 _ _ rfl; have := yR.1 19 _ _ rfl; omega)
    have := mz_hi (v5 - v7)
    refine mv_icmp_eqZ (tgt := 26) (a := (v5 - v7).toInt) (b := 3) d_TrustDeskModel_isWord_21 (by decide) rfl (by decide) (fun b9 => ?_) (fun b9 => ?_)
    · refine mv_iconst (v := 0) d_TrustDeskModel_isWord_26 (by decide) ?_
      refine mv_istore_n (lv' := [(2, .int 0), (0, .ref o0), (1, .ref 20)]) d_TrustDeskModel_isWord_27 rfl (by decide) rfl ?_
      have L28_10 : ∀ (k : Nat) (i2_10 : Int32) (T_10 : tm_H) (M_10 : mj_M) (n_10 : Nat), tm_I tm_FT (tm_in w_TrustDeskModel_isWord_s1_20_x) x9 T0 M0 n0 T_10 M_10 n_10 → T_10 o0 = some (0, 13, 0) → 0 ≤ i2_10.toInt → rv M_10 o0 15 = rv M0 o0 15 → rv M_10 o0 16 = rv M0 o0 16 → i2_10.toInt ≤ 2147483646 → (rI M_10 o0) → 2147483647 - i2_10.toInt < (k : Int) → mj_V g l kY_TrustDeskModel_isWord (d + 4) 28 [(2, .int i2_10), (0, .ref o0), (1, .ref 20)] [] M_10 n_10 0 0 (tm_Q tm_FT (tm_in w_TrustDeskModel_isWord_s1_20_x) x9 T0 M0 n0 (fun r _ M => ∃ v : Int32, r = some (.int v) ∧ 0 ≤ v.toInt ∧ v.toInt ≤ 1 ∧ rI M o0 ∧ (v.toInt = 1 → rv M0 o0 17 = 3))) := by
        intro k10
        induction k10 with
        | zero =>
          intro i2_10 T_10 M_10 n_10 I_10 h_q0_10 iv0_10 iv1_10 iv2_10 iv3_10 kKR_10 hk10
          have := mz_hi i2_10
          have := kKR_10.1 15 _ _ rfl
          have := kKR_10.1 16 _ _ rfl
          have := kKR_10.1 19 _ _ rfl
          omega
        | succ k10 ih10 =>
          intro i2_10 T_10 M_10 n_10 I_10 h_q0_10 iv0_10 iv1_10 iv2_10 iv3_10 kKR_10 hk10
          refine mv_iload_n d_TrustDeskModel_isWord_28 rfl rfl ?_
          refine mv_aload_n d_TrustDeskModel_isWord_29 rfl rfl ?_
          refine mv_slenK (i := 10) (v := 3) d_TrustDeskModel_isWord_30 lV_TrustDeskModel_214 (by decide) rfl (by decide) (Nat.le_of_ble_eq_true rfl) ?_
          have := mz_hi i2_10
          refine mv_icmp_geZ (tgt := 63) (a := i2_10.toInt) (b := 3) d_TrustDeskModel_isWord_33 (by decide) rfl (by decide) (fun b11 => ?_) (fun b11 => ?_)
          · refine mv_iconst (v := 1) d_TrustDeskModel_isWord_63 (by decide) ?_
            exact mv_iret d_TrustDeskModel_isWord_64 rfl (by decide) ⟨_, I_10, _, rfl, by decide, by decide, kKR_10, (fun _ => by omega)⟩
          · refine mv_aload_n d_TrustDeskModel_isWord_36 rfl rfl ?_
            obtain ⟨a13, q12, t_a13⟩ := tm_atR I_10 h_q0_10 (k := 13) rfl
            refine tr_getK q12 d_TrustDeskModel_isWord_37 f_TrustDeskModel_44_13 ?_
            refine mv_aload_n d_TrustDeskModel_isWord_40 rfl rfl ?_
            obtain ⟨v15, q14⟩ := tm_atI I_10 h_q0_10 (k := 16) rfl
            refine tr_getK q14 d_TrustDeskModel_isWord_41 f_TrustDeskModel_195_13 ?_
            have := kKR_10.f (k := 16) q14 rfl
            have := tm_rv q14
            refine mv_iload_n d_TrustDeskModel_isWord_44 rfl rfl ?_
            refine mv_iadd d_TrustDeskModel_isWord_45 ?_
            have b16 : (v15 + i2_10 : Int32).toInt = (v15.toInt + i2_10.toInt) := mz_add2 rfl rfl (by have := kKR_10.1 15 _ _ rfl; have := kKR_10.1 16 _ _ rfl; have := kKR_10.1 19 _ _ rfl; omega) (by have := kKR_10.1 15 _ _ rfl; have := kKR_10.1 16 _ _ rfl; have := kKR_10.1 19 _ _ rfl; omega)
            refine tr_baldR (o := o0) (k := 13) I_10 q12 t_a13 (by decide) d_TrustDeskModel_isWord_46 (vp_in_iff.mpr (by have := kKR_10.1 15 _ _ rfl; have := kKR_10.1 16 _ _ rfl; have := kKR_10.1 19 _ _ rfl; omega)) (fun v17 e18 => ?_)
            have := kKR_10.a (k := 13) rfl ((v15 + i2_10) : Int32).toNatClampNeg
            refine mv_aload_n d_TrustDeskModel_isWord_47 rfl rfl ?_
            refine mv_iload_n d_TrustDeskModel_isWord_48 rfl rfl ?_
            refine mv_schN (i := 10) (N := 3) d_TrustDeskModel_isWord_49 lV_TrustDeskModel_220 (by decide) rfl rfl (by omega) (by omega) (Nat.le_of_ble_eq_true rfl) (fun v19 => ?_)
            have := mz_hi v17
            have := mz_hi v19
            refine mv_icmp_eqZ (tgt := 57) (a := v17.toInt) (b := v19.toInt) d_TrustDeskModel_isWord_52 (by decide) rfl rfl (fun b20 => ?_) (fun b20 => ?_)
            · refine mv_iinc (v := (i2_10 + 1)) (lv' := [(2, .int (i2_10 + 1)), (0, .ref o0), (1, .ref 20)]) d_TrustDeskModel_isWord_57 rfl rfl (by decide) rfl ?_
              refine mv_goto (tgt := 28) d_TrustDeskModel_isWord_60 (by decide) ?_
              have b21 : (i2_10 + 1).toInt = i2_10.toInt + 1 := mz_addn 1 1 (by decide) (by have := mz_lo i2_10; omega) (by have := mz_hi i2_10; omega)
              exact (ih10 (i2_10 + 1) T_10 M_10 n_10 I_10 h_q0_10 (by have := kKR_10.1 15 _ _ rfl; have := kKR_10.1 16 _ _ rfl; have := kKR_10.1 19 _ _ rfl; first | omega | decide | exact fun h9 => absurd (by decide) h9) (by have := kKR_10.1 15 _ _ rfl; have := kKR_10.1 16 _ _ rfl; have := kKR_10.1 19 _ _ rfl; first | omega | decide | exact fun h9 => absurd (by decide) h9) (by have := kKR_10.1 15 _ _ rfl; have := kKR_10.1 16 _ _ rfl; have := kKR_10.1 19 _ _ rfl; first | omega | decide | exact fun h9 => absurd (by decide) h9) (by have := kKR_10.1 15 _ _ rfl; have := kKR_10.1 16 _ _ rfl; have := kKR_10.1 19 _ _ rfl; first | omega | decide | exact fun h9 => absurd (by decide) h9) kKR_10 (by have := kKR_10.1 15 _ _ rfl; have := kKR_10.1 16 _ _ rfl; have := kKR_10.1 19 _ _ rfl; omega))
            · refine mv_iconst (v := 0) d_TrustDeskModel_isWord_55 (by decide) ?_
              exact mv_iret d_TrustDeskModel_isWord_56 rfl (by decide) ⟨_, I_10, _, rfl, by decide, by decide, kKR_10, (fun h => absurd h (by decide))⟩
      exact mv_less (Nat.zero_le _) (Nat.zero_le _) (L28_10 4294967296 0 T0 M0 n0 I0 h_o0 (by have := yR.1 15 _ _ rfl; have := yR.1 16 _ _ rfl; have := yR.1 19 _ _ rfl; first | omega | decide | exact fun h9 => absurd (by decide) h9) (by have := yR.1 15 _ _ rfl; have := yR.1 16 _ _ rfl; have := yR.1 19 _ _ rfl; first | omega | decide | exact fun h9 => absurd (by decide) h9) (by have := yR.1 15 _ _ rfl; have := yR.1 16 _ _ rfl; have := yR.1 19 _ _ rfl; first | omega | decide | exact fun h9 => absurd (by decide) h9) (by have := yR.1 15 _ _ rfl; have := yR.1 16 _ _ rfl; have := yR.1 19 _ _ rfl; first | omega | decide | exact fun h9 => absurd (by decide) h9) yR (by show (2147483647 - (0 : Int) : Int) < _; decide))
    · refine mv_iconst (v := 0) d_TrustDeskModel_isWord_24 (by decide) ?_
      exact mv_iret d_TrustDeskModel_isWord_25 rfl (by decide) ⟨_, I0, _, rfl, by decide, by decide, yR, (fun h => absurd h (by decide))⟩
theorem d_TrustDeskModel_ruleWord_91 : decode kY_TrustDeskModel_ruleWord.2.1 91 = .ok (.ifCond .eq 8, 3) := by decide +kernel
theorem d_TrustDeskModel_ruleWord_99 : decode kY_TrustDeskModel_ruleWord.2.1 99 = .ok (.iconst (-1), 1) := by decide +kernel
theorem d_TrustDeskModel_ruleWord_100 : decode kY_TrustDeskModel_ruleWord.2.1 100 = .ok (.ireturn, 1) := by decide +kernel
theorem d_TrustDeskModel_ruleWord_94 : decode kY_TrustDeskModel_ruleWord.2.1 94 = .ok (.bipush 6, 2) := by decide +kernel
theorem d_TrustDeskModel_ruleWord_96 : decode kY_TrustDeskModel_ruleWord.2.1 96 = .ok (.goto 4, 3) := by decide +kernel
theorem d_TrustDeskModel_ruleWord_80 : decode kY_TrustDeskModel_ruleWord.2.1 80 = .ok (.iconst 5, 1) := by decide +kernel
theorem d_TrustDeskModel_ruleWord_81 : decode kY_TrustDeskModel_ruleWord.2.1 81 = .ok (.goto 19, 3) := by decide +kernel
theorem d_TrustDeskModel_ruleWord_66 : decode kY_TrustDeskModel_ruleWord.2.1 66 = .ok (.iconst 4, 1) := by decide +kernel
theorem d_TrustDeskModel_ruleWord_67 : decode kY_TrustDeskModel_ruleWord.2.1 67 = .ok (.goto 33, 3) := by decide +kernel
theorem d_TrustDeskModel_ruleWord_52 : decode kY_TrustDeskModel_ruleWord.2.1 52 = .ok (.iconst 3, 1) := by decide +kernel
theorem d_TrustDeskModel_ruleWord_53 : decode kY_TrustDeskModel_ruleWord.2.1 53 = .ok (.goto 47, 3) := by decide +kernel
theorem d_TrustDeskModel_ruleWord_38 : decode kY_TrustDeskModel_ruleWord.2.1 38 = .ok (.iconst 2, 1) := by decide +kernel
theorem d_TrustDeskModel_ruleWord_39 : decode kY_TrustDeskModel_ruleWord.2.1 39 = .ok (.goto 61, 3) := by decide +kernel
theorem d_TrustDeskModel_ruleWord_24 : decode kY_TrustDeskModel_ruleWord.2.1 24 = .ok (.iconst 1, 1) := by decide +kernel
theorem d_TrustDeskModel_ruleWord_25 : decode kY_TrustDeskModel_ruleWord.2.1 25 = .ok (.goto 75, 3) := by decide +kernel
theorem d_TrustDeskModel_ruleWord_10 : decode kY_TrustDeskModel_ruleWord.2.1 10 = .ok (.iconst 0, 1) := by decide +kernel
theorem d_TrustDeskModel_ruleWord_11 : decode kY_TrustDeskModel_ruleWord.2.1 11 = .ok (.goto 89, 3) := by decide +kernel
def w_TrustDeskModel_ruleWord_x : List Nat := []
theorem tc_TrustDeskModel_ruleWord_x {g : mj_G} {l : Launch} {d : Nat} {T0 : tm_H} {M0 : mj_M} {n0 x9 : Nat} {o0 : Nat} (h_o0 : T0 o0 = some (0, 13, 0)) (yR : rI M0 o0) (I0 : tm_I tm_FT (tm_in w_TrustDeskModel_ruleWord_x) x9 T0 M0 n0 T0 M0 n0) : mj_Met g l kY_TrustDeskModel_ruleWord (d + 5) [.ref o0] M0 n0 0 0 (tm_Q tm_FT (tm_in w_TrustDeskModel_ruleWord_x) x9 T0 M0 n0 (fun r _ M => ∃ v : Int32, r = some (.int v) ∧ rI M o0 ∧ (-1 ≤ v.toInt ∧ v.toInt ≤ 6))) := by
  refine mj_enter (by decide) (Nat.le_of_ble_eq_true rfl) ?_
  refine mv_aload_n d_TrustDeskModel_ruleWord_0 rfl rfl ?_
  refine mv_ldcSw (id := 14) (tx := "fail") d_TrustDeskModel_ruleWord_1 (List.mem_of_getElem? (i := 4) rfl) ?_
  obtain ⟨_, b7, -⟩ := I0.1 _ _ h_o0
  refine mv_callV (kc' := 0) (ks' := 0) (As := [.ref 14]) (st9 := [.ref 14, .ref o0]) d_TrustDeskModel_ruleWord_4 lV_TrustDeskModel_244 b7 rfl (tc_TrustDeskModel_isWord_s1_14_x (d := d) (x9 := x9) (o0 := o0) h_o0 yR I0.start) rfl (Nat.le_of_ble_eq_true rfl) (Nat.le_of_ble_eq_true rfl) (Nat.le_of_ble_eq_true rfl) (hst := rfl) (fun b1r M2 n3 b1 => ?_)
  obtain ⟨T4, J5, v8, rfl, b9, b10, R11, f12⟩ := b1
  have I6 := I0.call J5 (tm_sub (by decide)) (Or.inl rfl)
  have t13 := J5.up h_o0
  have := (rv_c I0 J5 (I0.up h_o0) (k := 17) rfl)
  have := mz_hi v8
  refine mv_if_eqZ (tgt := 14) (a := v8.toInt) d_TrustDeskModel_ruleWord_7 (by decide) rfl (fun b14 => ?_) (fun b14 => ?_)
  · refine mv_aload_n d_TrustDeskModel_ruleWord_14 rfl rfl ?_
    refine mv_ldcSw (id := 15) (tx := "keep") d_TrustDeskModel_ruleWord_15 (List.mem_of_getElem? (i := 5) rfl) ?_
    obtain ⟨_, b21, -⟩ := I6.1 _ _ t13
    refine mv_callV (kc' := 0) (ks' := 0) (As := [.ref 15]) (st9 := [.ref 15, .ref o0]) d_TrustDeskModel_ruleWord_18 lV_TrustDeskModel_244 b21 rfl (tc_TrustDeskModel_isWord_s1_15_x (d := d) (x9 := x9) (o0 := o0) t13 R11 I6.start) rfl (Nat.le_of_ble_eq_true rfl) (Nat.le_of_ble_eq_true rfl) (Nat.le_of_ble_eq_true rfl) (hst := rfl) (fun b15r M16 n17 b15 => ?_)
    obtain ⟨T18, J19, v22, rfl, b23, b24, R25, f26⟩ := b15
    have I20 := I6.call J19 (tm_sub (by decide)) (Or.inl rfl)
    have t27 := J19.up t13
    have := (rv_c I6 J19 (I6.up h_o0) (k := 17) rfl)
    have := mz_hi v22
    refine mv_if_eqZ (tgt := 28) (a := v22.toInt) d_TrustDeskModel_ruleWord_21 (by decide) rfl (fun b28 => ?_) (fun b28 => ?_)
    · refine mv_aload_n d_TrustDeskModel_ruleWord_28 rfl rfl ?_
      refine mv_ldcSw (id := 16) (tx := "days") d_TrustDeskModel_ruleWord_29 (List.mem_of_getElem? (i := 6) rfl) ?_
      obtain ⟨_, b35, -⟩ := I20.1 _ _ t27
      refine mv_callV (kc' := 0) (ks' := 0) (As := [.ref 16]) (st9 := [.ref 16, .ref o0]) d_TrustDeskModel_ruleWord_32 lV_TrustDeskModel_244 b35 rfl (tc_TrustDeskModel_isWord_s1_16_x (d := d) (x9 := x9) (o0 := o0) t27 R25 I20.start) rfl (Nat.le_of_ble_eq_true rfl) (Nat.le_of_ble_eq_true rfl) (Nat.le_of_ble_eq_true rfl) (hst := rfl) (fun b29r M30 n31 b29 => ?_)
      obtain ⟨T32, J33, v36, rfl, b37, b38, R39, f40⟩ := b29
      have I34 := I20.call J33 (tm_sub (by decide)) (Or.inl rfl)
      have t41 := J33.up t27
      have := (rv_c I20 J33 (I20.up h_o0) (k := 17) rfl)
      have := mz_hi v36
      refine mv_if_eqZ (tgt := 42) (a := v36.toInt) d_TrustDeskModel_ruleWord_35 (by decide) rfl (fun b42 => ?_) (fun b42 => ?_)
      · refine mv_aload_n d_TrustDeskModel_ruleWord_42 rfl rfl ?_
        refine mv_ldcSw (id := 17) (tx := "late") d_TrustDeskModel_ruleWord_43 (List.mem_of_getElem? (i := 7) rfl) ?_
        obtain ⟨_, b49, -⟩ := I34.1 _ _ t41
        refine mv_callV (kc' := 0) (ks' := 0) (As := [.ref 17]) (st9 := [.ref 17, .ref o0]) d_TrustDeskModel_ruleWord_46 lV_TrustDeskModel_244 b49 rfl (tc_TrustDeskModel_isWord_s1_17_x (d := d) (x9 := x9) (o0 := o0) t41 R39 I34.start) rfl (Nat.le_of_ble_eq_true rfl) (Nat.le_of_ble_eq_true rfl) (Nat.le_of_ble_eq_true rfl) (hst := rfl) (fun b43r M44 n45 b43 => ?_)
        obtain ⟨T46, J47, v50, rfl, b51, b52, R53, f54⟩ := b43
        have I48 := I34.call J47 (tm_sub (by decide)) (Or.inl rfl)
        have t55 := J47.up t41
        have := (rv_c I34 J47 (I34.up h_o0) (k := 17) rfl)
        have := mz_hi v50
        refine mv_if_eqZ (tgt := 56) (a := v50.toInt) d_TrustDeskModel_ruleWord_49 (by decide) rfl (fun b56 => ?_) (fun b56 => ?_)
        · refine mv_aload_n d_TrustDeskModel_ruleWord_56 rfl rfl ?_
          refine mv_ldcSw (id := 18) (tx := "gain") d_TrustDeskModel_ruleWord_57 (List.mem_of_getElem? (i := 8) rfl) ?_
          obtain ⟨_, b63, -⟩ := I48.1 _ _ t55
          refine mv_callV (kc' := 0) (ks' := 0) (As := [.ref 18]) (st9 := [.ref 18, .ref o0]) d_TrustDeskModel_ruleWord_60 lV_TrustDeskModel_244 b63 rfl (tc_TrustDeskModel_isWord_s1_18_x (d := d) (x9 := x9) (o0 := o0) t55 R53 I48.start) rfl (Nat.le_of_ble_eq_true rfl) (Nat.le_of_ble_eq_true rfl) (Nat.le_of_ble_eq_true rfl) (hst := rfl) (fun b57r M58 n59 b57 => ?_)
          obtain ⟨T60, J61, v64, rfl, b65, b66, R67, f68⟩ := b57
          have I62 := I48.call J61 (tm_sub (by decide)) (Or.inl rfl)
          have t69 := J61.up t55
          have := (rv_c I48 J61 (I48.up h_o0) (k := 17) rfl)
          have := mz_hi v64
          refine mv_if_eqZ (tgt := 70) (a := v64.toInt) d_TrustDeskModel_ruleWord_63 (by decide) rfl (fun b70 => ?_) (fun b70 => ?_)
          · refine mv_aload_n d_TrustDeskModel_ruleWord_70 rfl rfl ?_
            refine mv_ldcSw (id := 19) (tx := "sell") d_TrustDeskModel_ruleWord_71 (List.mem_of_getElem? (i := 9) rfl) ?_
            obtain ⟨_, b77, -⟩ := I62.1 _ _ t69
            refine mv_callV (kc' := 0) (ks' := 0) (As := [.ref 19]) (st9 := [.ref 19, .ref o0]) d_TrustDeskModel_ruleWord_74 lV_TrustDeskModel_244 b77 rfl (tc_TrustDeskModel_isWord_s1_19_x (d := d) (x9 := x9) (o0 := o0) t69 R67 I62.start) rfl (Nat.le_of_ble_eq_true rfl) (Nat.le_of_ble_eq_true rfl) (Nat.le_of_ble_eq_true rfl) (hst := rfl) (fun b71r M72 n73 b71 => ?_)
            obtain ⟨T74, J75, v78, rfl, b79, b80, R81, f82⟩ := b71
            have I76 := I62.call J75 (tm_sub (by decide)) (Or.inl rfl)
            have t83 := J75.up t69
            have := (rv_c I62 J75 (I62.up h_o0) (k := 17) rfl)
            have := mz_hi v78
            refine mv_if_eqZ (tgt := 84) (a := v78.toInt) d_TrustDeskModel_ruleWord_77 (by decide) rfl (fun b84 => ?_) (fun b84 => ?_)
            · refine mv_aload_n d_TrustDeskModel_ruleWord_84 rfl rfl ?_
              refine mv_ldcSw (id := 20) (tx := "bar") d_TrustDeskModel_ruleWord_85 (List.mem_of_getElem? (i := 10) rfl) ?_
              obtain ⟨_, b91, -⟩ := I76.1 _ _ t83
              refine mv_callV (kc' := 0) (ks' := 0) (As := [.ref 20]) (st9 := [.ref 20, .ref o0]) d_TrustDeskModel_ruleWord_88 lV_TrustDeskModel_244 b91 rfl (tc_TrustDeskModel_isWord_s1_20_x (d := d) (x9 := x9) (o0 := o0) t83 R81 I76.start) rfl (Nat.le_of_ble_eq_true rfl) (Nat.le_of_ble_eq_true rfl) (Nat.le_of_ble_eq_true rfl) (hst := rfl) (fun b85r M86 n87 b85 => ?_)
              obtain ⟨T88, J89, v92, rfl, b93, b94, R95, f96⟩ := b85
              have I90 := I76.call J89 (tm_sub (by decide)) (Or.inl rfl)
              have t97 := J89.up t83
              have := (rv_c I76 J89 (I76.up h_o0) (k := 17) rfl)
              have := mz_hi v92
              refine mv_if_eqZ (tgt := 99) (a := v92.toInt) d_TrustDeskModel_ruleWord_91 (by decide) rfl (fun b98 => ?_) (fun b98 => ?_)
              · refine mv_iconst (v := (-1)) d_TrustDeskModel_ruleWord_99 (by decide) ?_
                exact mv_iret d_TrustDeskModel_ruleWord_100 rfl (by first | rfl | decide) ⟨_, I90, _, rfl, R95, (by decide)⟩
              · refine mv_bipush (v := 6) d_TrustDeskModel_ruleWord_94 (by decide) ?_
                refine mv_goto (tgt := 100) d_TrustDeskModel_ruleWord_96 (by decide) ?_
                exact mv_iret d_TrustDeskModel_ruleWord_100 rfl (by first | rfl | decide) ⟨_, I90, _, rfl, R95, (by decide)⟩
            · refine mv_iconst (v := 5) d_TrustDeskModel_ruleWord_80 (by decide) ?_
              refine mv_goto (tgt := 100) d_TrustDeskModel_ruleWord_81 (by decide) ?_
              exact mv_iret d_TrustDeskModel_ruleWord_100 rfl (by first | rfl | decide) ⟨_, I76, _, rfl, R81, (by decide)⟩
          · refine mv_iconst (v := 4) d_TrustDeskModel_ruleWord_66 (by decide) ?_
            refine mv_goto (tgt := 100) d_TrustDeskModel_ruleWord_67 (by decide) ?_
            exact mv_iret d_TrustDeskModel_ruleWord_100 rfl (by first | rfl | decide) ⟨_, I62, _, rfl, R67, (by decide)⟩
        · refine mv_iconst (v := 3) d_TrustDeskModel_ruleWord_52 (by decide) ?_
          refine mv_goto (tgt := 100) d_TrustDeskModel_ruleWord_53 (by decide) ?_
          exact mv_iret d_TrustDeskModel_ruleWord_100 rfl (by first | rfl | decide) ⟨_, I48, _, rfl, R53, (by decide)⟩
      · refine mv_iconst (v := 2) d_TrustDeskModel_ruleWord_38 (by decide) ?_
        refine mv_goto (tgt := 100) d_TrustDeskModel_ruleWord_39 (by decide) ?_
        exact mv_iret d_TrustDeskModel_ruleWord_100 rfl (by first | rfl | decide) ⟨_, I34, _, rfl, R39, (by decide)⟩
    · refine mv_iconst (v := 1) d_TrustDeskModel_ruleWord_24 (by decide) ?_
      refine mv_goto (tgt := 100) d_TrustDeskModel_ruleWord_25 (by decide) ?_
      exact mv_iret d_TrustDeskModel_ruleWord_100 rfl (by first | rfl | decide) ⟨_, I20, _, rfl, R25, (by decide)⟩
  · refine mv_iconst (v := 0) d_TrustDeskModel_ruleWord_10 (by decide) ?_
    refine mv_goto (tgt := 100) d_TrustDeskModel_ruleWord_11 (by decide) ?_
    exact mv_iret d_TrustDeskModel_ruleWord_100 rfl (by first | rfl | decide) ⟨_, I6, _, rfl, R11, (by decide)⟩
theorem lV_TrustDeskModel_365 : mj_lV "TrustDeskModel" 365 kY_TrustDeskModel_ruleWord 0 := ⟨⟨(mj_in1 (List.mem_of_getElem? (i := 1670) (by decide +kernel)) rfl), (mj_in1 (List.mem_of_getElem? (i := 10) (by decide +kernel)) rfl), (mj_in1 (List.mem_of_getElem? (i := 1673) (by decide +kernel)) rfl), by decide, rfl, by decide⟩, (mj_in1 (List.mem_of_getElem? (i := 1672) (by decide +kernel)) rfl), (mj_in (List.mem_append_left _ (List.mem_of_getElem? (i := 85) (by decide +kernel))) rfl)⟩
theorem d_TrustDeskModel_readRule_4 : decode kY_TrustDeskModel_readRule.2.1 4 = .ok (.istore_n 1, 1) := by decide +kernel
theorem d_TrustDeskModel_readRule_5 : decode kY_TrustDeskModel_readRule.2.1 5 = .ok (.iload_n 1, 1) := by decide +kernel
theorem d_TrustDeskModel_readRule_6 : decode kY_TrustDeskModel_readRule.2.1 6 = .ok (.iconst (-1), 1) := by decide +kernel
theorem d_TrustDeskModel_readRule_7 : decode kY_TrustDeskModel_readRule.2.1 7 = .ok (.if_icmp .ne 11, 3) := by decide +kernel
theorem d_TrustDeskModel_readRule_18 : decode kY_TrustDeskModel_readRule.2.1 18 = .ok (.aload_n 0, 1) := by decide +kernel
theorem d_TrustDeskModel_readRule_19 : decode kY_TrustDeskModel_readRule.2.1 19 = .ok (.getfield 23, 3) := by decide +kernel
theorem d_TrustDeskModel_readRule_22 : decode kY_TrustDeskModel_readRule.2.1 22 = .ok (.bipush 44, 2) := by decide +kernel
theorem d_TrustDeskModel_readRule_24 : decode kY_TrustDeskModel_readRule.2.1 24 = .ok (.iaload, 1) := by decide +kernel
theorem d_TrustDeskModel_readRule_25 : decode kY_TrustDeskModel_readRule.2.1 25 = .ok (.bipush 20, 2) := by decide +kernel
theorem d_TrustDeskModel_readRule_27 : decode kY_TrustDeskModel_readRule.2.1 27 = .ok (.if_icmp .ne 8, 3) := by decide +kernel
theorem d_TrustDeskModel_readRule_35 : decode kY_TrustDeskModel_readRule.2.1 35 = .ok (.aload_n 0, 1) := by decide +kernel
theorem d_TrustDeskModel_readRule_36 : decode kY_TrustDeskModel_readRule.2.1 36 = .ok (.invokevirtual 230, 3) := by decide +kernel
theorem d_TrustDeskModel_readRule_39 : decode kY_TrustDeskModel_readRule.2.1 39 = .ok (.ifCond .ne 4, 3) := by decide +kernel
theorem d_TrustDeskModel_readRule_42 : decode kY_TrustDeskModel_readRule.2.1 42 = .ok (.return_, 1) := by decide +kernel
theorem d_TrustDeskModel_readRule_43 : decode kY_TrustDeskModel_readRule.2.1 43 = .ok (.aload_n 0, 1) := by decide +kernel
theorem d_TrustDeskModel_readRule_44 : decode kY_TrustDeskModel_readRule.2.1 44 = .ok (.iload_n 1, 1) := by decide +kernel
theorem d_TrustDeskModel_readRule_45 : decode kY_TrustDeskModel_readRule.2.1 45 = .ok (.invokevirtual 342, 3) := by decide +kernel
theorem d_TrustDeskModel_readRule_48 : decode kY_TrustDeskModel_readRule.2.1 48 = .ok (.istore_n 2, 1) := by decide +kernel
theorem d_TrustDeskModel_readRule_49 : decode kY_TrustDeskModel_readRule.2.1 49 = .ok (.iload_n 1, 1) := by decide +kernel
theorem d_TrustDeskModel_readRule_50 : decode kY_TrustDeskModel_readRule.2.1 50 = .ok (.bipush 6, 2) := by decide +kernel
theorem d_TrustDeskModel_readRule_52 : decode kY_TrustDeskModel_readRule.2.1 52 = .ok (.if_icmp .ne 119, 3) := by decide +kernel
theorem d_TrustDeskModel_readRule_171 : decode kY_TrustDeskModel_readRule.2.1 171 = .ok (.iload_n 1, 1) := by decide +kernel
theorem d_TrustDeskModel_readRule_172 : decode kY_TrustDeskModel_readRule.2.1 172 = .ok (.iconst 1, 1) := by decide +kernel
theorem d_TrustDeskModel_readRule_173 : decode kY_TrustDeskModel_readRule.2.1 173 = .ok (.if_icmp .eq 8, 3) := by decide +kernel
theorem d_TrustDeskModel_readRule_181 : decode kY_TrustDeskModel_readRule.2.1 181 = .ok (.iconst 0, 1) := by decide +kernel
theorem d_TrustDeskModel_readRule_182 : decode kY_TrustDeskModel_readRule.2.1 182 = .ok (.goto 4, 3) := by decide +kernel
theorem d_TrustDeskModel_readRule_186 : decode kY_TrustDeskModel_readRule.2.1 186 = .ok (.istore_n 3, 1) := by decide +kernel
theorem d_TrustDeskModel_readRule_187 : decode kY_TrustDeskModel_readRule.2.1 187 = .ok (.aload_n 0, 1) := by decide +kernel
theorem d_TrustDeskModel_readRule_188 : decode kY_TrustDeskModel_readRule.2.1 188 = .ok (.getfield 29, 3) := by decide +kernel
theorem d_TrustDeskModel_readRule_191 : decode kY_TrustDeskModel_readRule.2.1 191 = .ok (.iload_n 2, 1) := by decide +kernel
theorem d_TrustDeskModel_readRule_192 : decode kY_TrustDeskModel_readRule.2.1 192 = .ok (.aload_n 0, 1) := by decide +kernel
theorem d_TrustDeskModel_readRule_193 : decode kY_TrustDeskModel_readRule.2.1 193 = .ok (.iload_n 3, 1) := by decide +kernel
theorem d_TrustDeskModel_readRule_194 : decode kY_TrustDeskModel_readRule.2.1 194 = .ok (.iload_n 1, 1) := by decide +kernel
theorem d_TrustDeskModel_readRule_195 : decode kY_TrustDeskModel_readRule.2.1 195 = .ok (.ifCond .ne 8, 3) := by decide +kernel
theorem d_TrustDeskModel_readRule_203 : decode kY_TrustDeskModel_readRule.2.1 203 = .ok (.iload_n 1, 1) := by decide +kernel
theorem d_TrustDeskModel_readRule_204 : decode kY_TrustDeskModel_readRule.2.1 204 = .ok (.iconst 1, 1) := by decide +kernel
theorem d_TrustDeskModel_readRule_205 : decode kY_TrustDeskModel_readRule.2.1 205 = .ok (.if_icmp .ne 8, 3) := by decide +kernel
theorem d_TrustDeskModel_readRule_208 : decode kY_TrustDeskModel_readRule.2.1 208 = .ok (.bipush 8, 2) := by decide +kernel
theorem d_TrustDeskModel_readRule_210 : decode kY_TrustDeskModel_readRule.2.1 210 = .ok (.goto 37, 3) := by decide +kernel
theorem d_TrustDeskModel_readRule_247 : decode kY_TrustDeskModel_readRule.2.1 247 = .ok (.invokevirtual 317, 3) := by decide +kernel
theorem d_TrustDeskModel_readRule_250 : decode kY_TrustDeskModel_readRule.2.1 250 = .ok (.iastore, 1) := by decide +kernel
theorem d_TrustDeskModel_readRule_251 : decode kY_TrustDeskModel_readRule.2.1 251 = .ok (.aload_n 0, 1) := by decide +kernel
theorem d_TrustDeskModel_readRule_252 : decode kY_TrustDeskModel_readRule.2.1 252 = .ok (.bipush 59, 2) := by decide +kernel
theorem d_TrustDeskModel_readRule_254 : decode kY_TrustDeskModel_readRule.2.1 254 = .ok (.invokevirtual 291, 3) := by decide +kernel
theorem d_TrustDeskModel_readRule_257 : decode kY_TrustDeskModel_readRule.2.1 257 = .ok (.aload_n 0, 1) := by decide +kernel
theorem d_TrustDeskModel_readRule_258 : decode kY_TrustDeskModel_readRule.2.1 258 = .ok (.getfield 41, 3) := by decide +kernel
theorem d_TrustDeskModel_readRule_261 : decode kY_TrustDeskModel_readRule.2.1 261 = .ok (.iload_n 2, 1) := by decide +kernel
theorem d_TrustDeskModel_readRule_262 : decode kY_TrustDeskModel_readRule.2.1 262 = .ok (.aload_n 0, 1) := by decide +kernel
theorem d_TrustDeskModel_readRule_263 : decode kY_TrustDeskModel_readRule.2.1 263 = .ok (.getfield 20, 3) := by decide +kernel
theorem d_TrustDeskModel_readRule_266 : decode kY_TrustDeskModel_readRule.2.1 266 = .ok (.bipush 44, 2) := by decide +kernel
theorem d_TrustDeskModel_readRule_268 : decode kY_TrustDeskModel_readRule.2.1 268 = .ok (.iaload, 1) := by decide +kernel
theorem d_TrustDeskModel_readRule_269 : decode kY_TrustDeskModel_readRule.2.1 269 = .ok (.iastore, 1) := by decide +kernel
theorem d_TrustDeskModel_readRule_270 : decode kY_TrustDeskModel_readRule.2.1 270 = .ok (.return_, 1) := by decide +kernel
theorem d_TrustDeskModel_readRule_176 : decode kY_TrustDeskModel_readRule.2.1 176 = .ok (.iload_n 1, 1) := by decide +kernel
theorem d_TrustDeskModel_readRule_177 : decode kY_TrustDeskModel_readRule.2.1 177 = .ok (.iconst 4, 1) := by decide +kernel
theorem d_TrustDeskModel_readRule_178 : decode kY_TrustDeskModel_readRule.2.1 178 = .ok (.if_icmp .ne 7, 3) := by decide +kernel
theorem d_TrustDeskModel_readRule_185 : decode kY_TrustDeskModel_readRule.2.1 185 = .ok (.iconst 1, 1) := by decide +kernel
theorem d_TrustDeskModel_readRule_213 : decode kY_TrustDeskModel_readRule.2.1 213 = .ok (.iload_n 1, 1) := by decide +kernel
theorem d_TrustDeskModel_readRule_214 : decode kY_TrustDeskModel_readRule.2.1 214 = .ok (.iconst 2, 1) := by decide +kernel
theorem d_TrustDeskModel_readRule_215 : decode kY_TrustDeskModel_readRule.2.1 215 = .ok (.if_icmp .ne 9, 3) := by decide +kernel
theorem d_TrustDeskModel_readRule_224 : decode kY_TrustDeskModel_readRule.2.1 224 = .ok (.iload_n 1, 1) := by decide +kernel
theorem d_TrustDeskModel_readRule_225 : decode kY_TrustDeskModel_readRule.2.1 225 = .ok (.iconst 3, 1) := by decide +kernel
theorem d_TrustDeskModel_readRule_226 : decode kY_TrustDeskModel_readRule.2.1 226 = .ok (.if_icmp .ne 9, 3) := by decide +kernel
theorem d_TrustDeskModel_readRule_235 : decode kY_TrustDeskModel_readRule.2.1 235 = .ok (.iload_n 1, 1) := by decide +kernel
theorem d_TrustDeskModel_readRule_236 : decode kY_TrustDeskModel_readRule.2.1 236 = .ok (.iconst 4, 1) := by decide +kernel
theorem d_TrustDeskModel_readRule_237 : decode kY_TrustDeskModel_readRule.2.1 237 = .ok (.if_icmp .ne 8, 3) := by decide +kernel
theorem d_TrustDeskModel_readRule_245 : decode kY_TrustDeskModel_readRule.2.1 245 = .ok (.bipush 40, 2) := by decide +kernel
theorem d_TrustDeskModel_readRule_240 : decode kY_TrustDeskModel_readRule.2.1 240 = .ok (.bipush 20, 2) := by decide +kernel
theorem d_TrustDeskModel_readRule_242 : decode kY_TrustDeskModel_readRule.2.1 242 = .ok (.goto 5, 3) := by decide +kernel
theorem d_TrustDeskModel_readRule_229 : decode kY_TrustDeskModel_readRule.2.1 229 = .ok (.sipush 720, 3) := by decide +kernel
theorem d_TrustDeskModel_readRule_232 : decode kY_TrustDeskModel_readRule.2.1 232 = .ok (.goto 15, 3) := by decide +kernel
theorem d_TrustDeskModel_readRule_218 : decode kY_TrustDeskModel_readRule.2.1 218 = .ok (.sipush 360, 3) := by decide +kernel
theorem d_TrustDeskModel_readRule_221 : decode kY_TrustDeskModel_readRule.2.1 221 = .ok (.goto 26, 3) := by decide +kernel
theorem d_TrustDeskModel_readRule_198 : decode kY_TrustDeskModel_readRule.2.1 198 = .ok (.bipush 50, 2) := by decide +kernel
theorem d_TrustDeskModel_readRule_200 : decode kY_TrustDeskModel_readRule.2.1 200 = .ok (.goto 47, 3) := by decide +kernel
theorem d_TrustDeskModel_readRule_55 : decode kY_TrustDeskModel_readRule.2.1 55 = .ok (.aload_n 0, 1) := by decide +kernel
theorem d_TrustDeskModel_readRule_56 : decode kY_TrustDeskModel_readRule.2.1 56 = .ok (.getfield 29, 3) := by decide +kernel
theorem d_TrustDeskModel_readRule_59 : decode kY_TrustDeskModel_readRule.2.1 59 = .ok (.iload_n 2, 1) := by decide +kernel
theorem d_TrustDeskModel_readRule_60 : decode kY_TrustDeskModel_readRule.2.1 60 = .ok (.aload_n 0, 1) := by decide +kernel
theorem d_TrustDeskModel_readRule_61 : decode kY_TrustDeskModel_readRule.2.1 61 = .ok (.ldc_w 368, 3) := by decide +kernel
theorem d_TrustDeskModel_readRule_64 : decode kY_TrustDeskModel_readRule.2.1 64 = .ok (.invokevirtual 244, 3) := by decide +kernel
def w_TrustDeskModel_isWord_s1_21_x : List Nat := []
theorem tc_TrustDeskModel_isWord_s1_21_x {g : mj_G} {l : Launch} {d : Nat} {T0 : tm_H} {M0 : mj_M} {n0 x9 : Nat} {o0 : Nat} (h_o0 : T0 o0 = some (0, 13, 0)) (yR : rI M0 o0) (I0 : tm_I tm_FT (tm_in w_TrustDeskModel_isWord_s1_21_x) x9 T0 M0 n0 T0 M0 n0) : mj_Met g l kY_TrustDeskModel_isWord (d + 4) [.ref o0, .ref 21] M0 n0 0 0 (tm_Q tm_FT (tm_in w_TrustDeskModel_isWord_s1_21_x) x9 T0 M0 n0 (fun r _ M => ∃ v : Int32, r = some (.int v) ∧ 0 ≤ v.toInt ∧ v.toInt ≤ 1 ∧ rI M o0 ∧ (v.toInt = 1 → rv M0 o0 17 = 3))) := by
  refine mj_enter (by decide) (Nat.le_of_ble_eq_true rfl) ?_
  refine mv_aload_n d_TrustDeskModel_isWord_0 rfl rfl ?_
  obtain ⟨v2, q1⟩ := tm_atI I0 h_o0 (k := 17) rfl
  refine tr_getK q1 d_TrustDeskModel_isWord_1 f_TrustDeskModel_198_13 ?_
  have := tm_rv q1
  refine mv_iconst (v := 3) d_TrustDeskModel_isWord_4 (by decide) ?_
  have := mz_hi v2
  refine mv_icmp_neZ (tgt := 24) (a := v2.toInt) (b := 3) d_TrustDeskModel_isWord_5 (by decide) rfl (by decide) (fun b3 => ?_) (fun b3 => ?_)
  · refine mv_iconst (v := 0) d_TrustDeskModel_isWord_24 (by decide) ?_
    exact mv_iret d_TrustDeskModel_isWord_25 rfl (by decide) ⟨_, I0, _, rfl, by decide, by decide, yR, (fun h => absurd h (by decide))⟩
  · refine mv_aload_n d_TrustDeskModel_isWord_8 rfl rfl ?_
    obtain ⟨v5, q4⟩ := tm_atI I0 h_o0 (k := 15) rfl
    refine tr_getK q4 d_TrustDeskModel_isWord_9 f_TrustDeskModel_192_13 ?_
    have := yR.f (k := 15) q4 rfl
    have := tm_rv q4
    refine mv_aload_n d_TrustDeskModel_isWord_12 rfl rfl ?_
    obtain ⟨v7, q6⟩ := tm_atI I0 h_o0 (k := 16) rfl
    refine tr_getK q6 d_TrustDeskModel_isWord_13 f_TrustDeskModel_195_13 ?_
    have := yR.f (k := 16) q6 rfl
    have := tm_rv q6
    refine mv_isub d_TrustDeskModel_isWord_16 ?_
    refine mv_aload_n d_TrustDeskModel_isWord_17 rfl rfl ?_
    refine mv_slenK (i := 11) (v := 4) d_TrustDeskModel_isWord_18 lV_TrustDeskModel_214 (by decide) rfl (by decide) (Nat.le_of_ble_eq_true rfl) ?_
    have b8 : (v5 - v7 : Int32).toInt = (v5.toInt - v7.toInt) := mz_sub2 rfl rfl (by have := yR.1 15 _ _ rfl; have := yR.1 16 _ _ rfl; have := yR.1 19 _ _ rfl; omega) (by have := yR.1 15 _ _ rfl; have := yR.1 16 _ _ rfl; have := yR.1 19 _ _ rfl; omega)
    have := mz_hi (v5 - v7)
    refine mv_icmp_eqZ (tgt := 26) (a := (v5 - v7).toInt) (b := 4) d_TrustDeskModel_isWord_21 (by decide) rfl (by decide) (fun b9 => ?_) (fun b9 => ?_)
    · refine mv_iconst (v := 0) d_TrustDeskModel_isWord_26 (by decide) ?_
      refine mv_istore_n (lv' := [(2, .int 0), (0, .ref o0), (1, .ref 21)]) d_TrustDeskModel_isWord_27 rfl (by decide) rfl ?_
      have L28_10 : ∀ (k : Nat) (i2_10 : Int32) (T_10 : tm_H) (M_10 : mj_M) (n_10 : Nat), tm_I tm_FT (tm_in w_TrustDeskModel_isWord_s1_21_x) x9 T0 M0 n0 T_10 M_10 n_10 → T_10 o0 = some (0, 13, 0) → 0 ≤ i2_10.toInt → rv M_10 o0 15 = rv M0 o0 15 → rv M_10 o0 16 = rv M0 o0 16 → i2_10.toInt ≤ 2147483646 → (rI M_10 o0) → 2147483647 - i2_10.toInt < (k : Int) → mj_V g l kY_TrustDeskModel_isWord (d + 4) 28 [(2, .int i2_10), (0, .ref o0), (1, .ref 21)] [] M_10 n_10 0 0 (tm_Q tm_FT (tm_in w_TrustDeskModel_isWord_s1_21_x) x9 T0 M0 n0 (fun r _ M => ∃ v : Int32, r = some (.int v) ∧ 0 ≤ v.toInt ∧ v.toInt ≤ 1 ∧ rI M o0 ∧ (v.toInt = 1 → rv M0 o0 17 = 3))) := by
        intro k10
        induction k10 with
        | zero =>
          intro i2_10 T_10 M_10 n_10 I_10 h_q0_10 iv0_10 iv1_10 iv2_10 iv3_10 kKR_10 hk10
          have := mz_hi i2_10
          have := kKR_10.1 15 _ _ rfl
          have := kKR_10.1 16 _ _ rfl
          have := kKR_10.1 19 _ _ rfl
          omega
        | succ k10 ih10 =>
          intro i2_10 T_10 M_10 n_10 I_10 h_q0_10 iv0_10 iv1_10 iv2_10 iv3_10 kKR_10 hk10
          refine mv_iload_n d_TrustDeskModel_isWord_28 rfl rfl ?_
          refine mv_aload_n d_TrustDeskModel_isWord_29 rfl rfl ?_
          refine mv_slenK (i := 11) (v := 4) d_TrustDeskModel_isWord_30 lV_TrustDeskModel_214 (by decide) rfl (by decide) (Nat.le_of_ble_eq_true rfl) ?_
          have := mz_hi i2_10
          refine mv_icmp_geZ (tgt := 63) (a := i2_10.toInt) (b := 4) d_TrustDeskModel_isWord_33 (by decide) rfl (by decide) (fun b11 => ?_) (fun b11 => ?_)
          · refine mv_iconst (v := 1) d_TrustDeskModel_isWord_63 (by decide) ?_
            exact mv_iret d_TrustDeskModel_isWord_64 rfl (by decide) ⟨_, I_10, _, rfl, by decide, by decide, kKR_10, (fun _ => by omega)⟩
          · refine mv_aload_n d_TrustDeskModel_isWord_36 rfl rfl ?_
            obtain ⟨a13, q12, t_a13⟩ := tm_atR I_10 h_q0_10 (k := 13) rfl
            refine tr_getK q12 d_TrustDeskModel_isWord_37 f_TrustDeskModel_44_13 ?_
            refine mv_aload_n d_TrustDeskModel_isWord_40 rfl rfl ?_
            obtain ⟨v15, q14⟩ := tm_atI I_10 h_q0_10 (k := 16) rfl
            refine tr_getK q14 d_TrustDeskModel_isWord_41 f_TrustDeskModel_195_13 ?_
            have := kKR_10.f (k := 16) q14 rfl
            have := tm_rv q14
            refine mv_iload_n d_TrustDeskModel_isWord_44 rfl rfl ?_
            refine mv_iadd d_TrustDeskModel_isWord_45 ?_
            have b16 : (v15 + i2_10 : Int32).toInt = (v15.toInt + i2_10.toInt) := mz_add2 rfl rfl (by have := kKR_10.1 15 _ _ rfl; have := kKR_10.1 16 _ _ rfl; have := kKR_10.1 19 _ _ rfl; omega) (by have := kKR_10.1 15 _ _ rfl; have := kKR_10.1 16 _ _ rfl; have := kKR_10.1 19 _ _ rfl; omega)
            refine tr_baldR (o := o0) (k := 13) I_10 q12 t_a13 (by decide) d_TrustDeskModel_isWord_46 (vp_in_iff.mpr (by have := kKR_10.1 15 _ _ rfl; have := kKR_10.1 16 _ _ rfl; have := kKR_10.1 19 _ _ rfl; omega)) (fun v17 e18 => ?_)
            have := kKR_10.a (k := 13) rfl ((v15 + i2_10) : Int32).toNatClampNeg
            refine mv_aload_n d_TrustDeskModel_isWord_47 rfl rfl ?_
            refine mv_iload_n d_TrustDeskModel_isWord_48 rfl rfl ?_
            refine mv_schN (i := 11) (N := 4) d_TrustDeskModel_isWord_49 lV_TrustDeskModel_220 (by decide) rfl rfl (by omega) (by omega) (Nat.le_of_ble_eq_true rfl) (fun v19 => ?_)
            have := mz_hi v17
            have := mz_hi v19
            refine mv_icmp_eqZ (tgt := 57) (a := v17.toInt) (b := v19.toInt) d_TrustDeskModel_isWord_52 (by decide) rfl rfl (fun b20 => ?_) (fun b20 => ?_)
            · refine mv_iinc (v := (i2_10 + 1)) (lv' := [(2, .int (i2_10 + 1)), (0, .ref o0), (1, .ref 21)]) d_TrustDeskModel_isWord_57 rfl rfl (by decide) rfl ?_
              refine mv_goto (tgt := 28) d_TrustDeskModel_isWord_60 (by decide) ?_
              have b21 : (i2_10 + 1).toInt = i2_10.toInt + 1 := mz_addn 1 1 (by decide) (by have := mz_lo i2_10; omega) (by have := mz_hi i2_10; omega)
              exact (ih10 (i2_10 + 1) T_10 M_10 n_10 I_10 h_q0_10 (by have := kKR_10.1 15 _ _ rfl; have := kKR_10.1 16 _ _ rfl; have := kKR_10.1 19 _ _ rfl; first | omega | decide | exact fun h9 => absurd (by decide) h9) (by have := kKR_10.1 15 _ _ rfl; have := kKR_10.1 16 _ _ rfl; have := kKR_10.1 19 _ _ rfl; first | omega | decide | exact fun h9 => absurd (by decide) h9) (by have := kKR_10.1 15 _ _ rfl; have := kKR_10.1 16 _ _ rfl; have := kKR_10.1 19 _ _ rfl; first | omega | decide | exact fun h9 => absurd (by decide) h9) (by have := kKR_10.1 15 _ _ rfl; have := kKR_10.1 16 _ _ rfl; have := kKR_10.1 19 _ _ rfl; first | omega | decide | exact fun h9 => absurd (by decide) h9) kKR_10 (by have := kKR_10.1 15 _ _ rfl; have := kKR_10.1 16 _ _ rfl; have := kKR_10.1 19 _ _ rfl; omega))
            · refine mv_iconst (v := 0) d_TrustDeskModel_isWord_55 (by decide) ?_
              exact mv_iret d_TrustDeskModel_isWord_56 rfl (by decide) ⟨_, I_10, _, rfl, by decide, by decide, kKR_10, (fun h => absurd h (by decide))⟩
      exact mv_less (Nat.zero_le _) (Nat.zero_le _) (L28_10 4294967296 0 T0 M0 n0 I0 h_o0 (by have := yR.1 15 _ _ rfl; have := yR.1 16 _ _ rfl; have := yR.1 19 _ _ rfl; first | omega | decide | exact fun h9 => absurd (by decide) h9) (by have := yR.1 15 _ _ rfl; have := yR.1 16 _ _ rfl; have := yR.1 19 _ _ rfl; first | omega | decide | exact fun h9 => absurd (by decide) h9) (by have := yR.1 15 _ _ rfl; have := yR.1 16 _ _ rfl; have := yR.1 19 _ _ rfl; first | omega | decide | exact fun h9 => absurd (by decide) h9) (by have := yR.1 15 _ _ rfl; have := yR.1 16 _ _ rfl; have := yR.1 19 _ _ rfl; first | omega | decide | exact fun h9 => absurd (by decide) h9) yR (by show (2147483647 - (0 : Int) : Int) < _; decide))
    · refine mv_iconst (v := 0) d_TrustDeskModel_isWord_24 (by decide) ?_
      exact mv_iret d_TrustDeskModel_isWord_25 rfl (by decide) ⟨_, I0, _, rfl, by decide, by decide, yR, (fun h => absurd h (by decide))⟩
theorem d_TrustDeskModel_readRule_67 : decode kY_TrustDeskModel_readRule.2.1 67 = .ok (.ifCond .eq 7, 3) := by decide +kernel
theorem d_TrustDeskModel_readRule_74 : decode kY_TrustDeskModel_readRule.2.1 74 = .ok (.aload_n 0, 1) := by decide +kernel
theorem d_TrustDeskModel_readRule_75 : decode kY_TrustDeskModel_readRule.2.1 75 = .ok (.ldc_w 370, 3) := by decide +kernel
theorem d_TrustDeskModel_readRule_78 : decode kY_TrustDeskModel_readRule.2.1 78 = .ok (.invokevirtual 244, 3) := by decide +kernel
def w_TrustDeskModel_isWord_s1_22_x : List Nat := []
theorem tc_TrustDeskModel_isWord_s1_22_x {g : mj_G} {l : Launch} {d : Nat} {T0 : tm_H} {M0 : mj_M} {n0 x9 : Nat} {o0 : Nat} (h_o0 : T0 o0 = some (0, 13, 0)) (yR : rI M0 o0) (I0 : tm_I tm_FT (tm_in w_TrustDeskModel_isWord_s1_22_x) x9 T0 M0 n0 T0 M0 n0) : mj_Met g l kY_TrustDeskModel_isWord (d + 4) [.ref o0, .ref 22] M0 n0 0 0 (tm_Q tm_FT (tm_in w_TrustDeskModel_isWord_s1_22_x) x9 T0 M0 n0 (fun r _ M => ∃ v : Int32, r = some (.int v) ∧ 0 ≤ v.toInt ∧ v.toInt ≤ 1 ∧ rI M o0 ∧ (v.toInt = 1 → rv M0 o0 17 = 3))) := by
  refine mj_enter (by decide) (Nat.le_of_ble_eq_true rfl) ?_
  refine mv_aload_n d_TrustDeskModel_isWord_0 rfl rfl ?_
  obtain ⟨v2, q1⟩ := tm_atI I0 h_o0 (k := 17) rfl
  refine tr_getK q1 d_TrustDeskModel_isWord_1 f_TrustDeskModel_198_13 ?_
  have := tm_rv q1
  refine mv_iconst (v := 3) d_TrustDeskModel_isWord_4 (by decide) ?_
  have := mz_hi v2
  refine mv_icmp_neZ (tgt := 24) (a := v2.toInt) (b := 3) d_TrustDeskModel_isWord_5 (by decide) rfl (by decide) (fun b3 => ?_) (fun b3 => ?_)
  · refine mv_iconst (v := 0) d_TrustDeskModel_isWord_24 (by decide) ?_
    exact mv_iret d_TrustDeskModel_isWord_25 rfl (by decide) ⟨_, I0, _, rfl, by decide, by decide, yR, (fun h => absurd h (by decide))⟩
  · refine mv_aload_n d_TrustDeskModel_isWord_8 rfl rfl ?_
    obtain ⟨v5, q4⟩ := tm_atI I0 h_o0 (k := 15) rfl
    refine tr_getK q4 d_TrustDeskModel_isWord_9 f_TrustDeskModel_192_13 ?_
    have := yR.f (k := 15) q4 rfl
    have := tm_rv q4
    refine mv_aload_n d_TrustDeskModel_isWord_12 rfl rfl ?_
    obtain ⟨v7, q6⟩ := tm_atI I0 h_o0 (k := 16) rfl
    refine tr_getK q6 d_TrustDeskModel_isWord_13 f_TrustDeskModel_195_13 ?_
    have := yR.f (k := 16) q6 rfl
    have := tm_rv q6
    refine mv_isub d_TrustDeskModel_isWord_16 ?_
    refine mv_aload_n d_TrustDeskModel_isWord_17 rfl rfl ?_
    refine mv_slenK (i := 12) (v := 4) d_TrustDeskModel_isWord_18 lV_TrustDeskModel_214 (by decide) rfl (by decide) (Nat.le_of_ble_eq_true rfl) ?_
    have b8 : (v5 - v7 : Int32).toInt = (v5.toInt - v7.toInt) := mz_sub2 rfl rfl (by have := yR.1 15 _ _ rfl; have := yR.1 16 _ _ rfl; have := yR.1 19 _ _ rfl; omega) (by have := yR.1 15 _ _ rfl; have := yR.1 16 _ _ rfl; have := yR.1 19 _ _ rfl; omega)
    have := mz_hi (v5 - v7)
    refine mv_icmp_eqZ (tgt := 26) (a := (v5 - v7).toInt) (b := 4) d_TrustDeskModel_isWord_21 (by decide) rfl (by decide) (fun b9 => ?_) (fun b9 => ?_)
    · refine mv_iconst (v := 0) d_TrustDeskModel_isWord_26 (by decide) ?_
      refine mv_istore_n (lv' := [(2, .int 0), (0, .ref o0), (1, .ref 22)]) d_TrustDeskModel_isWord_27 rfl (by decide) rfl ?_
      have L28_10 : ∀ (k : Nat) (i2_10 : Int32) (T_10 : tm_H) (M_10 : mj_M) (n_10 : Nat), tm_I tm_FT (tm_in w_TrustDeskModel_isWord_s1_22_x) x9 T0 M0 n0 T_10 M_10 n_10 → T_10 o0 = some (0, 13, 0) → 0 ≤ i2_10.toInt → rv M_10 o0 15 = rv M0 o0 15 → rv M_10 o0 16 = rv M0 o0 16 → i2_10.toInt ≤ 2147483646 → (rI M_10 o0) → 2147483647 - i2_10.toInt < (k : Int) → mj_V g l kY_TrustDeskModel_isWord (d + 4) 28 [(2, .int i2_10), (0, .ref o0), (1, .ref 22)] [] M_10 n_10 0 0 (tm_Q tm_FT (tm_in w_TrustDeskModel_isWord_s1_22_x) x9 T0 M0 n0 (fun r _ M => ∃ v : Int32, r = some (.int v) ∧ 0 ≤ v.toInt ∧ v.toInt ≤ 1 ∧ rI M o0 ∧ (v.toInt = 1 → rv M0 o0 17 = 3))) := by
        intro k10
        induction k10 with
        | zero =>
          intro i2_10 T_10 M_10 n_10 I_10 h_q0_10 iv0_10 iv1_10 iv2_10 iv3_10 kKR_10 hk10
          have := mz_hi i2_10
          have := kKR_10.1 15 _ _ rfl
          have := kKR_10.1 16 _ _ rfl
          have := kKR_10.1 19 _ _ rfl
          omega
        | succ k10 ih10 =>
          intro i2_10 T_10 M_10 n_10 I_10 h_q0_10 iv0_10 iv1_10 iv2_10 iv3_10 kKR_10 hk10
          refine mv_iload_n d_TrustDeskModel_isWord_28 rfl rfl ?_
          refine mv_aload_n d_TrustDeskModel_isWord_29 rfl rfl ?_
          refine mv_slenK (i := 12) (v := 4) d_TrustDeskModel_isWord_30 lV_TrustDeskModel_214 (by decide) rfl (by decide) (Nat.le_of_ble_eq_true rfl) ?_
          have := mz_hi i2_10
          refine mv_icmp_geZ (tgt := 63) (a := i2_10.toInt) (b := 4) d_TrustDeskModel_isWord_33 (by decide) rfl (by decide) (fun b11 => ?_) (fun b11 => ?_)
          · refine mv_iconst (v := 1) d_TrustDeskModel_isWord_63 (by decide) ?_
            exact mv_iret d_TrustDeskModel_isWord_64 rfl (by decide) ⟨_, I_10, _, rfl, by decide, by decide, kKR_10, (fun _ => by omega)⟩
          · refine mv_aload_n d_TrustDeskModel_isWord_36 rfl rfl ?_
            obtain ⟨a13, q12, t_a13⟩ := tm_atR I_10 h_q0_10 (k := 13) rfl
            refine tr_getK q12 d_TrustDeskModel_isWord_37 f_TrustDeskModel_44_13 ?_
            refine mv_aload_n d_TrustDeskModel_isWord_40 rfl rfl ?_
            obtain ⟨v15, q14⟩ := tm_atI I_10 h_q0_10 (k := 16) rfl
            refine tr_getK q14 d_TrustDeskModel_isWord_41 f_TrustDeskModel_195_13 ?_
            have := kKR_10.f (k := 16) q14 rfl
            have := tm_rv q14
            refine mv_iload_n d_TrustDeskModel_isWord_44 rfl rfl ?_
            refine mv_iadd d_TrustDeskModel_isWord_45 ?_
            have b16 : (v15 + i2_10 : Int32).toInt = (v15.toInt + i2_10.toInt) := mz_add2 rfl rfl (by have := kKR_10.1 15 _ _ rfl; have := kKR_10.1 16 _ _ rfl; have := kKR_10.1 19 _ _ rfl; omega) (by have := kKR_10.1 15 _ _ rfl; have := kKR_10.1 16 _ _ rfl; have := kKR_10.1 19 _ _ rfl; omega)
            refine tr_baldR (o := o0) (k := 13) I_10 q12 t_a13 (by decide) d_TrustDeskModel_isWord_46 (vp_in_iff.mpr (by have := kKR_10.1 15 _ _ rfl; have := kKR_10.1 16 _ _ rfl; have := kKR_10.1 19 _ _ rfl; omega)) (fun v17 e18 => ?_)
            have := kKR_10.a (k := 13) rfl ((v15 + i2_10) : Int32).toNatClampNeg
            refine mv_aload_n d_TrustDeskModel_isWord_47 rfl rfl ?_
            refine mv_iload_n d_TrustDeskModel_isWord_48 rfl rfl ?_
            refine mv_schN (i := 12) (N := 4) d_TrustDeskModel_isWord_49 lV_TrustDeskModel_220 (by decide) rfl rfl (by omega) (by omega) (Nat.le_of_ble_eq_true rfl) (fun v19 => ?_)
            have := mz_hi v17
            have := mz_hi v19
            refine mv_icmp_eqZ (tgt := 57) (a := v17.toInt) (b := v19.toInt) d_TrustDeskModel_isWord_52 (by decide) rfl rfl (fun b20 => ?_) (fun b20 => ?_)
            · refine mv_iinc (v := (i2_10 + 1)) (lv' := [(2, .int (i2_10 + 1)), (0, .ref o0), (1, .ref 22)]) d_TrustDeskModel_isWord_57 rfl rfl (by decide) rfl ?_
              refine mv_goto (tgt := 28) d_TrustDeskModel_isWord_60 (by decide) ?_
              have b21 : (i2_10 + 1).toInt = i2_10.toInt + 1 := mz_addn 1 1 (by decide) (by have := mz_lo i2_10; omega) (by have := mz_hi i2_10; omega)
              exact (ih10 (i2_10 + 1) T_10 M_10 n_10 I_10 h_q0_10 (by have := kKR_10.1 15 _ _ rfl; have := kKR_10.1 16 _ _ rfl; have := kKR_10.1 19 _ _ rfl; first | omega | decide | exact fun h9 => absurd (by decide) h9) (by have := kKR_10.1 15 _ _ rfl; have := kKR_10.1 16 _ _ rfl; have := kKR_10.1 19 _ _ rfl; first | omega | decide | exact fun h9 => absurd (by decide) h9) (by have := kKR_10.1 15 _ _ rfl; have := kKR_10.1 16 _ _ rfl; have := kKR_10.1 19 _ _ rfl; first | omega | decide | exact fun h9 => absurd (by decide) h9) (by have := kKR_10.1 15 _ _ rfl; have := kKR_10.1 16 _ _ rfl; have := kKR_10.1 19 _ _ rfl; first | omega | decide | exact fun h9 => absurd (by decide) h9) kKR_10 (by have := kKR_10.1 15 _ _ rfl; have := kKR_10.1 16 _ _ rfl; have := kKR_10.1 19 _ _ rfl; omega))
            · refine mv_iconst (v := 0) d_TrustDeskModel_isWord_55 (by decide) ?_
              exact mv_iret d_TrustDeskModel_isWord_56 rfl (by decide) ⟨_, I_10, _, rfl, by decide, by decide, kKR_10, (fun h => absurd h (by decide))⟩
      exact mv_less (Nat.zero_le _) (Nat.zero_le _) (L28_10 4294967296 0 T0 M0 n0 I0 h_o0 (by have := yR.1 15 _ _ rfl; have := yR.1 16 _ _ rfl; have := yR.1 19 _ _ rfl; first | omega | decide | exact fun h9 => absurd (by decide) h9) (by have := yR.1 15 _ _ rfl; have := yR.1 16 _ _ rfl; have := yR.1 19 _ _ rfl; first | omega | decide | exact fun h9 => absurd (by decide) h9) (by have := yR.1 15 _ _ rfl; have := yR.1 16 _ _ rfl; have := yR.1 19 _ _ rfl; first | omega | decide | exact fun h9 => absurd (by decide) h9) (by have := yR.1 15 _ _ rfl; have := yR.1 16 _ _ rfl; have := yR.1 19 _ _ rfl; first | omega | decide | exact fun h9 => absurd (by decide) h9) yR (by show (2147483647 - (0 : Int) : Int) < _; decide))
    · refine mv_iconst (v := 0) d_TrustDeskModel_isWord_24 (by decide) ?_
      exact mv_iret d_TrustDeskModel_isWord_25 rfl (by decide) ⟨_, I0, _, rfl, by decide, by decide, yR, (fun h => absurd h (by decide))⟩
theorem d_TrustDeskModel_readRule_81 : decode kY_TrustDeskModel_readRule.2.1 81 = .ok (.ifCond .eq 7, 3) := by decide +kernel
theorem d_TrustDeskModel_readRule_88 : decode kY_TrustDeskModel_readRule.2.1 88 = .ok (.aload_n 0, 1) := by decide +kernel
theorem d_TrustDeskModel_readRule_89 : decode kY_TrustDeskModel_readRule.2.1 89 = .ok (.ldc_w 372, 3) := by decide +kernel
theorem d_TrustDeskModel_readRule_92 : decode kY_TrustDeskModel_readRule.2.1 92 = .ok (.invokevirtual 244, 3) := by decide +kernel
def w_TrustDeskModel_isWord_s1_23_x : List Nat := []
theorem tc_TrustDeskModel_isWord_s1_23_x {g : mj_G} {l : Launch} {d : Nat} {T0 : tm_H} {M0 : mj_M} {n0 x9 : Nat} {o0 : Nat} (h_o0 : T0 o0 = some (0, 13, 0)) (yR : rI M0 o0) (I0 : tm_I tm_FT (tm_in w_TrustDeskModel_isWord_s1_23_x) x9 T0 M0 n0 T0 M0 n0) : mj_Met g l kY_TrustDeskModel_isWord (d + 4) [.ref o0, .ref 23] M0 n0 0 0 (tm_Q tm_FT (tm_in w_TrustDeskModel_isWord_s1_23_x) x9 T0 M0 n0 (fun r _ M => ∃ v : Int32, r = some (.int v) ∧ 0 ≤ v.toInt ∧ v.toInt ≤ 1 ∧ rI M o0 ∧ (v.toInt = 1 → rv M0 o0 17 = 3))) := by
  refine mj_enter (by decide) (Nat.le_of_ble_eq_true rfl) ?_
  refine mv_aload_n d_TrustDeskModel_isWord_0 rfl rfl ?_
  obtain ⟨v2, q1⟩ := tm_atI I0 h_o0 (k := 17) rfl
  refine tr_getK q1 d_TrustDeskModel_isWord_1 f_TrustDeskModel_198_13 ?_
  have := tm_rv q1
  refine mv_iconst (v := 3) d_TrustDeskModel_isWord_4 (by decide) ?_
  have := mz_hi v2
  refine mv_icmp_neZ (tgt := 24) (a := v2.toInt) (b := 3) d_TrustDeskModel_isWord_5 (by decide) rfl (by decide) (fun b3 => ?_) (fun b3 => ?_)
  · refine mv_iconst (v := 0) d_TrustDeskModel_isWord_24 (by decide) ?_
    exact mv_iret d_TrustDeskModel_isWord_25 rfl (by decide) ⟨_, I0, _, rfl, by decide, by decide, yR, (fun h => absurd h (by decide))⟩
  · refine mv_aload_n d_TrustDeskModel_isWord_8 rfl rfl ?_
    obtain ⟨v5, q4⟩ := tm_atI I0 h_o0 (k := 15) rfl
    refine tr_getK q4 d_TrustDeskModel_isWord_9 f_TrustDeskModel_192_13 ?_
    have := yR.f (k := 15) q4 rfl
    have := tm_rv q4
    refine mv_aload_n d_TrustDeskModel_isWord_12 rfl rfl ?_
    obtain ⟨v7, q6⟩ := tm_atI I0 h_o0 (k := 16) rfl
    refine tr_getK q6 d_TrustDeskModel_isWord_13 f_TrustDeskModel_195_13 ?_
    have := yR.f (k := 16) q6 rfl
    have := tm_rv q6
    refine mv_isub d_TrustDeskModel_isWord_16 ?_
    refine mv_aload_n d_TrustDeskModel_isWord_17 rfl rfl ?_
    refine mv_slenK (i := 13) (v := 4) d_TrustDeskModel_isWord_18 lV_TrustDeskModel_214 (by decide) rfl (by decide) (Nat.le_of_ble_eq_true rfl) ?_
    have b8 : (v5 - v7 : Int32).toInt = (v5.toInt - v7.toInt) := mz_sub2 rfl rfl (by have := yR.1 15 _ _ rfl; have := yR.1 16 _ _ rfl; have := yR.1 19 _ _ rfl; omega) (by have := yR.1 15 _ _ rfl; have := yR.1 16 _ _ rfl; have := yR.1 19 _ _ rfl; omega)
    have := mz_hi (v5 - v7)
    refine mv_icmp_eqZ (tgt := 26) (a := (v5 - v7).toInt) (b := 4) d_TrustDeskModel_isWord_21 (by decide) rfl (by decide) (fun b9 => ?_) (fun b9 => ?_)
    · refine mv_iconst (v := 0) d_TrustDeskModel_isWord_26 (by decide) ?_
      refine mv_istore_n (lv' := [(2, .int 0), (0, .ref o0), (1, .ref 23)]) d_TrustDeskModel_isWord_27 rfl (by decide) rfl ?_
      have L28_10 : ∀ (k : Nat) (i2_10 : Int32) (T_10 : tm_H) (M_10 : mj_M) (n_10 : Nat), tm_I tm_FT (tm_in w_TrustDeskModel_isWord_s1_23_x) x9 T0 M0 n0 T_10 M_10 n_10 → T_10 o0 = some (0, 13, 0) → 0 ≤ i2_10.toInt → rv M_10 o0 15 = rv M0 o0 15 → rv M_10 o0 16 = rv M0 o0 16 → i2_10.toInt ≤ 2147483646 → (rI M_10 o0) → 2147483647 - i2_10.toInt < (k : Int) → mj_V g l kY_TrustDeskModel_isWord (d + 4) 28 [(2, .int i2_10), (0, .ref o0), (1, .ref 23)] [] M_10 n_10 0 0 (tm_Q tm_FT (tm_in w_TrustDeskModel_isWord_s1_23_x) x9 T0 M0 n0 (fun r _ M => ∃ v : Int32, r = some (.int v) ∧ 0 ≤ v.toInt ∧ v.toInt ≤ 1 ∧ rI M o0 ∧ (v.toInt = 1 → rv M0 o0 17 = 3))) := by
        intro k10
        induction k10 with
        | zero =>
          intro i2_10 T_10 M_10 n_10 I_10 h_q0_10 iv0_10 iv1_10 iv2_10 iv3_10 kKR_10 hk10
          have := mz_hi i2_10
          have := kKR_10.1 15 _ _ rfl
          have := kKR_10.1 16 _ _ rfl
          have := kKR_10.1 19 _ _ rfl
          omega
        | succ k10 ih10 =>
          intro i2_10 T_10 M_10 n_10 I_10 h_q0_10 iv0_10 iv1_10 iv2_10 iv3_10 kKR_10 hk10
          refine mv_iload_n d_TrustDeskModel_isWord_28 rfl rfl ?_
          refine mv_aload_n d_TrustDeskModel_isWord_29 rfl rfl ?_
          refine mv_slenK (i := 13) (v := 4) d_TrustDeskModel_isWord_30 lV_TrustDeskModel_214 (by decide) rfl (by decide) (Nat.le_of_ble_eq_true rfl) ?_
          have := mz_hi i2_10
          refine mv_icmp_geZ (tgt := 63) (a := i2_10.toInt) (b := 4) d_TrustDeskModel_isWord_33 (by decide) rfl (by decide) (fun b11 => ?_) (fun b11 => ?_)
          · refine mv_iconst (v := 1) d_TrustDeskModel_isWord_63 (by decide) ?_
            exact mv_iret d_TrustDeskModel_isWord_64 rfl (by decide) ⟨_, I_10, _, rfl, by decide, by decide, kKR_10, (fun _ => by omega)⟩
          · refine mv_aload_n d_TrustDeskModel_isWord_36 rfl rfl ?_
            obtain ⟨a13, q12, t_a13⟩ := tm_atR I_10 h_q0_10 (k := 13) rfl
            refine tr_getK q12 d_TrustDeskModel_isWord_37 f_TrustDeskModel_44_13 ?_
            refine mv_aload_n d_TrustDeskModel_isWord_40 rfl rfl ?_
            obtain ⟨v15, q14⟩ := tm_atI I_10 h_q0_10 (k := 16) rfl
            refine tr_getK q14 d_TrustDeskModel_isWord_41 f_TrustDeskModel_195_13 ?_
            have := kKR_10.f (k := 16) q14 rfl
            have := tm_rv q14
            refine mv_iload_n d_TrustDeskModel_isWord_44 rfl rfl ?_
            refine mv_iadd d_TrustDeskModel_isWord_45 ?_
            have b16 : (v15 + i2_10 : Int32).toInt = (v15.toInt + i2_10.toInt) := mz_add2 rfl rfl (by have := kKR_10.1 15 _ _ rfl; have := kKR_10.1 16 _ _ rfl; have := kKR_10.1 19 _ _ rfl; omega) (by have := kKR_10.1 15 _ _ rfl; have := kKR_10.1 16 _ _ rfl; have := kKR_10.1 19 _ _ rfl; omega)
            refine tr_baldR (o := o0) (k := 13) I_10 q12 t_a13 (by decide) d_TrustDeskModel_isWord_46 (vp_in_iff.mpr (by have := kKR_10.1 15 _ _ rfl; have := kKR_10.1 16 _ _ rfl; have := kKR_10.1 19 _ _ rfl; omega)) (fun v17 e18 => ?_)
            have := kKR_10.a (k := 13) rfl ((v15 + i2_10) : Int32).toNatClampNeg
            refine mv_aload_n d_TrustDeskModel_isWord_47 rfl rfl ?_
            refine mv_iload_n d_TrustDeskModel_isWord_48 rfl rfl ?_
            refine mv_schN (i := 13) (N := 4) d_TrustDeskModel_isWord_49 lV_TrustDeskModel_220 (by decide) rfl rfl (by omega) (by omega) (Nat.le_of_ble_eq_true rfl) (fun v19 => ?_)
            have := mz_hi v17
            have := mz_hi v19
            refine mv_icmp_eqZ (tgt := 57) (a := v17.toInt) (b := v19.toInt) d_TrustDeskModel_isWord_52 (by decide) rfl rfl (fun b20 => ?_) (fun b20 => ?_)
            · refine mv_iinc (v := (i2_10 + 1)) (lv' := [(2, .int (i2_10 + 1)), (0, .ref o0), (1, .ref 23)]) d_TrustDeskModel_isWord_57 rfl rfl (by decide) rfl ?_
              refine mv_goto (tgt := 28) d_TrustDeskModel_isWord_60 (by decide) ?_
              have b21 : (i2_10 + 1).toInt = i2_10.toInt + 1 := mz_addn 1 1 (by decide) (by have := mz_lo i2_10; omega) (by have := mz_hi i2_10; omega)
              exact (ih10 (i2_10 + 1) T_10 M_10 n_10 I_10 h_q0_10 (by have := kKR_10.1 15 _ _ rfl; have := kKR_10.1 16 _ _ rfl; have := kKR_10.1 19 _ _ rfl; first | omega | decide | exact fun h9 => absurd (by decide) h9) (by have := kKR_10.1 15 _ _ rfl; have := kKR_10.1 16 _ _ rfl; have := kKR_10.1 19 _ _ rfl; first | omega | decide | exact fun h9 => absurd (by decide) h9) (by have := kKR_10.1 15 _ _ rfl; have := kKR_10.1 16 _ _ rfl; have := kKR_10.1 19 _ _ rfl; first | omega | decide | exact fun h9 => absurd (by decide) h9) (by have := kKR_10.1 15 _ _ rfl; have := kKR_10.1 16 _ _ rfl; have := kKR_10.1 19 _ _ rfl; first | omega | decide | exact fun h9 => absurd (by decide) h9) kKR_10 (by have := kKR_10.1 15 _ _ rfl; have := kKR_10.1 16 _ _ rfl; have := kKR_10.1 19 _ _ rfl; omega))
            · refine mv_iconst (v := 0) d_TrustDeskModel_isWord_55 (by decide) ?_
              exact mv_iret d_TrustDeskModel_isWord_56 rfl (by decide) ⟨_, I_10, _, rfl, by decide, by decide, kKR_10, (fun h => absurd h (by decide))⟩
      exact mv_less (Nat.zero_le _) (Nat.zero_le _) (L28_10 4294967296 0 T0 M0 n0 I0 h_o0 (by have := yR.1 15 _ _ rfl; have := yR.1 16 _ _ rfl; have := yR.1 19 _ _ rfl; first | omega | decide | exact fun h9 => absurd (by decide) h9) (by have := yR.1 15 _ _ rfl; have := yR.1 16 _ _ rfl; have := yR.1 19 _ _ rfl; first | omega | decide | exact fun h9 => absurd (by decide) h9) (by have := yR.1 15 _ _ rfl; have := yR.1 16 _ _ rfl; have := yR.1 19 _ _ rfl; first | omega | decide | exact fun h9 => absurd (by decide) h9) (by have := yR.1 15 _ _ rfl; have := yR.1 16 _ _ rfl; have := yR.1 19 _ _ rfl; first | omega | decide | exact fun h9 => absurd (by decide) h9) yR (by show (2147483647 - (0 : Int) : Int) < _; decide))
    · refine mv_iconst (v := 0) d_TrustDeskModel_isWord_24 (by decide) ?_
      exact mv_iret d_TrustDeskModel_isWord_25 rfl (by decide) ⟨_, I0, _, rfl, by decide, by decide, yR, (fun h => absurd h (by decide))⟩
theorem d_TrustDeskModel_readRule_95 : decode kY_TrustDeskModel_readRule.2.1 95 = .ok (.ifCond .eq 7, 3) := by decide +kernel
theorem d_TrustDeskModel_readRule_102 : decode kY_TrustDeskModel_readRule.2.1 102 = .ok (.aload_n 0, 1) := by decide +kernel
theorem d_TrustDeskModel_readRule_103 : decode kY_TrustDeskModel_readRule.2.1 103 = .ok (.ldc_w 374, 3) := by decide +kernel
theorem d_TrustDeskModel_readRule_106 : decode kY_TrustDeskModel_readRule.2.1 106 = .ok (.invokevirtual 244, 3) := by decide +kernel
def w_TrustDeskModel_isWord_s1_24_x : List Nat := []
theorem tc_TrustDeskModel_isWord_s1_24_x {g : mj_G} {l : Launch} {d : Nat} {T0 : tm_H} {M0 : mj_M} {n0 x9 : Nat} {o0 : Nat} (h_o0 : T0 o0 = some (0, 13, 0)) (yR : rI M0 o0) (I0 : tm_I tm_FT (tm_in w_TrustDeskModel_isWord_s1_24_x) x9 T0 M0 n0 T0 M0 n0) : mj_Met g l kY_TrustDeskModel_isWord (d + 4) [.ref o0, .ref 24] M0 n0 0 0 (tm_Q tm_FT (tm_in w_TrustDeskModel_isWord_s1_24_x) x9 T0 M0 n0 (fun r _ M => ∃ v : Int32, r = some (.int v) ∧ 0 ≤ v.toInt ∧ v.toInt ≤ 1 ∧ rI M o0 ∧ (v.toInt = 1 → rv M0 o0 17 = 3))) := by
  refine mj_enter (by decide) (Nat.le_of_ble_eq_true rfl) ?_
  refine mv_aload_n d_TrustDeskModel_isWord_0 rfl rfl ?_
  obtain ⟨v2, q1⟩ := tm_atI I0 h_o0 (k := 17) rfl
  refine tr_getK q1 d_TrustDeskModel_isWord_1 f_TrustDeskModel_198_13 ?_
  have := tm_rv q1
  refine mv_iconst (v := 3) d_TrustDeskModel_isWord_4 (by decide) ?_
  have := mz_hi v2
  refine mv_icmp_neZ (tgt := 24) (a := v2.toInt) (b := 3) d_TrustDeskModel_isWord_5 (by decide) rfl (by decide) (fun b3 => ?_) (fun b3 => ?_)
  · refine mv_iconst (v := 0) d_TrustDeskModel_isWord_24 (by decide) ?_
    exact mv_iret d_TrustDeskModel_isWord_25 rfl (by decide) ⟨_, I0, _, rfl, by decide, by decide, yR, (fun h => absurd h (by decide))⟩
  · refine mv_aload_n d_TrustDeskModel_isWord_8 rfl rfl ?_
    obtain ⟨v5, q4⟩ := tm_atI I0 h_o0 (k := 15) rfl
    refine tr_getK q4 d_TrustDeskModel_isWord_9 f_TrustDeskModel_192_13 ?_
    have := yR.f (k := 15) q4 rfl
    have := tm_rv q4
    refine mv_aload_n d_TrustDeskModel_isWord_12 rfl rfl ?_
    obtain ⟨v7, q6⟩ := tm_atI I0 h_o0 (k := 16) rfl
    refine tr_getK q6 d_TrustDeskModel_isWord_13 f_TrustDeskModel_195_13 ?_
    have := yR.f (k := 16) q6 rfl
    have := tm_rv q6
    refine mv_isub d_TrustDeskModel_isWord_16 ?_
    refine mv_aload_n d_TrustDeskModel_isWord_17 rfl rfl ?_
    refine mv_slenK (i := 14) (v := 6) d_TrustDeskModel_isWord_18 lV_TrustDeskModel_214 (by decide) rfl (by decide) (Nat.le_of_ble_eq_true rfl) ?_
    have b8 : (v5 - v7 : Int32).toInt = (v5.toInt - v7.toInt) := mz_sub2 rfl rfl (by have := yR.1 15 _ _ rfl; have := yR.1 16 _ _ rfl; have := yR.1 19 _ _ rfl; omega) (by have := yR.1 15 _ _ rfl; have := yR.1 16 _ _ rfl; have := yR.1 19 _ _ rfl; omega)
    have := mz_hi (v5 - v7)
    refine mv_icmp_eqZ (tgt := 26) (a := (v5 - v7).toInt) (b := 6) d_TrustDeskModel_isWord_21 (by decide) rfl (by decide) (fun b9 => ?_) (fun b9 => ?_)
    · refine mv_iconst (v := 0) d_TrustDeskModel_isWord_26 (by decide) ?_
      refine mv_istore_n (lv' := [(2, .int 0), (0, .ref o0), (1, .ref 24)]) d_TrustDeskModel_isWord_27 rfl (by decide) rfl ?_
      have L28_10 : ∀ (k : Nat) (i2_10 : Int32) (T_10 : tm_H) (M_10 : mj_M) (n_10 : Nat), tm_I tm_FT (tm_in w_TrustDeskModel_isWord_s1_24_x) x9 T0 M0 n0 T_10 M_10 n_10 → T_10 o0 = some (0, 13, 0) → 0 ≤ i2_10.toInt → rv M_10 o0 15 = rv M0 o0 15 → rv M_10 o0 16 = rv M0 o0 16 → i2_10.toInt ≤ 2147483646 → (rI M_10 o0) → 2147483647 - i2_10.toInt < (k : Int) → mj_V g l kY_TrustDeskModel_isWord (d + 4) 28 [(2, .int i2_10), (0, .ref o0), (1, .ref 24)] [] M_10 n_10 0 0 (tm_Q tm_FT (tm_in w_TrustDeskModel_isWord_s1_24_x) x9 T0 M0 n0 (fun r _ M => ∃ v : Int32, r = some (.int v) ∧ 0 ≤ v.toInt ∧ v.toInt ≤ 1 ∧ rI M o0 ∧ (v.toInt = 1 → rv M0 o0 17 = 3))) := by
        intro k10
        induction k10 with
        | zero =>
          intro i2_10 T_10 M_10 n_10 I_10 h_q0_10 iv0_10 iv1_10 iv2_10 iv3_10 kKR_10 hk10
          have := mz_hi i2_10
          have := kKR_10.1 15 _ _ rfl
          have := kKR_10.1 16 _ _ rfl
          have := kKR_10.1 19 _ _ rfl
          omega
        | succ k10 ih10 =>
          intro i2_10 T_10 M_10 n_10 I_10 h_q0_10 iv0_10 iv1_10 iv2_10 iv3_10 kKR_10 hk10
          refine mv_iload_n d_TrustDeskModel_isWord_28 rfl rfl ?_
          refine mv_aload_n d_TrustDeskModel_isWord_29 rfl rfl ?_
          refine mv_slenK (i := 14) (v := 6) d_TrustDeskModel_isWord_30 lV_TrustDeskModel_214 (by decide) rfl (by decide) (Nat.le_of_ble_eq_true rfl) ?_
          have := mz_hi i2_10
          refine mv_icmp_geZ (tgt := 63) (a := i2_10.toInt) (b := 6) d_TrustDeskModel_isWord_33 (by decide) rfl (by decide) (fun b11 => ?_) (fun b11 => ?_)
          · refine mv_iconst (v := 1) d_TrustDeskModel_isWord_63 (by decide) ?_
            exact mv_iret d_TrustDeskModel_isWord_64 rfl (by decide) ⟨_, I_10, _, rfl, by decide, by decide, kKR_10, (fun _ => by omega)⟩
          · refine mv_aload_n d_TrustDeskModel_isWord_36 rfl rfl ?_
            obtain ⟨a13, q12, t_a13⟩ := tm_atR I_10 h_q0_10 (k := 13) rfl
            refine tr_getK q12 d_TrustDeskModel_isWord_37 f_TrustDeskModel_44_13 ?_
            refine mv_aload_n d_TrustDeskModel_isWord_40 rfl rfl ?_
            obtain ⟨v15, q14⟩ := tm_atI I_10 h_q0_10 (k := 16) rfl
            refine tr_getK q14 d_TrustDeskModel_isWord_41 f_TrustDeskModel_195_13 ?_
            have := kKR_10.f (k := 16) q14 rfl
            have := tm_rv q14
            refine mv_iload_n d_TrustDeskModel_isWord_44 rfl rfl ?_
            refine mv_iadd d_TrustDeskModel_isWord_45 ?_
            have b16 : (v15 + i2_10 : Int32).toInt = (v15.toInt + i2_10.toInt) := mz_add2 rfl rfl (by have := kKR_10.1 15 _ _ rfl; have := kKR_10.1 16 _ _ rfl; have := kKR_10.1 19 _ _ rfl; omega) (by have := kKR_10.1 15 _ _ rfl; have := kKR_10.1 16 _ _ rfl; have := kKR_10.1 19 _ _ rfl; omega)
            refine tr_baldR (o := o0) (k := 13) I_10 q12 t_a13 (by decide) d_TrustDeskModel_isWord_46 (vp_in_iff.mpr (by have := kKR_10.1 15 _ _ rfl; have := kKR_10.1 16 _ _ rfl; have := kKR_10.1 19 _ _ rfl; omega)) (fun v17 e18 => ?_)
            have := kKR_10.a (k := 13) rfl ((v15 + i2_10) : Int32).toNatClampNeg
            refine mv_aload_n d_TrustDeskModel_isWord_47 rfl rfl ?_
            refine mv_iload_n d_TrustDeskModel_isWord_48 rfl rfl ?_
            refine mv_schN (i := 14) (N := 6) d_TrustDeskModel_isWord_49 lV_TrustDeskModel_220 (by decide) rfl rfl (by omega) (by omega) (Nat.le_of_ble_eq_true rfl) (fun v19 => ?_)
            have := mz_hi v17
            have := mz_hi v19
            refine mv_icmp_eqZ (tgt := 57) (a := v17.toInt) (b := v19.toInt) d_TrustDeskModel_isWord_52 (by decide) rfl rfl (fun b20 => ?_) (fun b20 => ?_)
            · refine mv_iinc (v := (i2_10 + 1)) (lv' := [(2, .int (i2_10 + 1)), (0, .ref o0), (1, .ref 24)]) d_TrustDeskModel_isWord_57 rfl rfl (by decide) rfl ?_
              refine mv_goto (tgt := 28) d_TrustDeskModel_isWord_60 (by decide) ?_
              have b21 : (i2_10 + 1).toInt = i2_10.toInt + 1 := mz_addn 1 1 (by decide) (by have := mz_lo i2_10; omega) (by have := mz_hi i2_10; omega)
              exact (ih10 (i2_10 + 1) T_10 M_10 n_10 I_10 h_q0_10 (by have := kKR_10.1 15 _ _ rfl; have := kKR_10.1 16 _ _ rfl; have := kKR_10.1 19 _ _ rfl; first | omega | decide | exact fun h9 => absurd (by decide) h9) (by have := kKR_10.1 15 _ _ rfl; have := kKR_10.1 16 _ _ rfl; have := kKR_10.1 19 _ _ rfl; first | omega | decide | exact fun h9 => absurd (by decide) h9) (by have := kKR_10.1 15 _ _ rfl; have := kKR_10.1 16 _ _ rfl; have := kKR_10.1 19 _ _ rfl; first | omega | decide | exact fun h9 => absurd (by decide) h9) (by have := kKR_10.1 15 _ _ rfl; have := kKR_10.1 16 _ _ rfl; have := kKR_10.1 19 _ _ rfl; first | omega | decide | exact fun h9 => absurd (by decide) h9) kKR_10 (by have := kKR_10.1 15 _ _ rfl; have := kKR_10.1 16 _ _ rfl; have := kKR_10.1 19 _ _ rfl; omega))
            · refine mv_iconst (v := 0) d_TrustDeskModel_isWord_55 (by decide) ?_
              exact mv_iret d_TrustDeskModel_isWord_56 rfl (by decide) ⟨_, I_10, _, rfl, by decide, by decide, kKR_10, (fun h => absurd h (by decide))⟩
      exact mv_less (Nat.zero_le _) (Nat.zero_le _) (L28_10 4294967296 0 T0 M0 n0 I0 h_o0 (by have := yR.1 15 _ _ rfl; have := yR.1 16 _ _ rfl; have := yR.1 19 _ _ rfl; first | omega | decide | exact fun h9 => absurd (by decide) h9) (by have := yR.1 15 _ _ rfl; have := yR.1 16 _ _ rfl; have := yR.1 19 _ _ rfl; first | omega | decide | exact fun h9 => absurd (by decide) h9) (by have := yR.1 15 _ _ rfl; have := yR.1 16 _ _ rfl; have := yR.1 19 _ _ rfl; first | omega | decide | exact fun h9 => absurd (by decide) h9) (by have := yR.1 15 _ _ rfl; have := yR.1 16 _ _ rfl; have := yR.1 19 _ _ rfl; first | omega | decide | exact fun h9 => absurd (by decide) h9) yR (by show (2147483647 - (0 : Int) : Int) < _; decide))
    · refine mv_iconst (v := 0) d_TrustDeskModel_isWord_24 (by decide) ?_
      exact mv_iret d_TrustDeskModel_isWord_25 rfl (by decide) ⟨_, I0, _, rfl, by decide, by decide, yR, (fun h => absurd h (by decide))⟩
theorem d_TrustDeskModel_readRule_109 : decode kY_TrustDeskModel_readRule.2.1 109 = .ok (.ifCond .eq 7, 3) := by decide +kernel
theorem d_TrustDeskModel_readRule_116 : decode kY_TrustDeskModel_readRule.2.1 116 = .ok (.iconst (-1), 1) := by decide +kernel
theorem d_TrustDeskModel_readRule_117 : decode kY_TrustDeskModel_readRule.2.1 117 = .ok (.iastore, 1) := by decide +kernel
theorem d_TrustDeskModel_readRule_118 : decode kY_TrustDeskModel_readRule.2.1 118 = .ok (.aload_n 0, 1) := by decide +kernel
theorem d_TrustDeskModel_readRule_119 : decode kY_TrustDeskModel_readRule.2.1 119 = .ok (.getfield 29, 3) := by decide +kernel
theorem d_TrustDeskModel_readRule_122 : decode kY_TrustDeskModel_readRule.2.1 122 = .ok (.iload_n 2, 1) := by decide +kernel
theorem d_TrustDeskModel_readRule_123 : decode kY_TrustDeskModel_readRule.2.1 123 = .ok (.iaload, 1) := by decide +kernel
theorem d_TrustDeskModel_readRule_124 : decode kY_TrustDeskModel_readRule.2.1 124 = .ok (.iconst (-1), 1) := by decide +kernel
theorem d_TrustDeskModel_readRule_125 : decode kY_TrustDeskModel_readRule.2.1 125 = .ok (.if_icmp .ne 8, 3) := by decide +kernel
theorem d_TrustDeskModel_readRule_133 : decode kY_TrustDeskModel_readRule.2.1 133 = .ok (.aload_n 0, 1) := by decide +kernel
theorem d_TrustDeskModel_readRule_134 : decode kY_TrustDeskModel_readRule.2.1 134 = .ok (.invokevirtual 230, 3) := by decide +kernel
theorem d_TrustDeskModel_readRule_137 : decode kY_TrustDeskModel_readRule.2.1 137 = .ok (.ifCond .eq 7, 3) := by decide +kernel
theorem d_TrustDeskModel_readRule_140 : decode kY_TrustDeskModel_readRule.2.1 140 = .ok (.aload_n 0, 1) := by decide +kernel
theorem d_TrustDeskModel_readRule_141 : decode kY_TrustDeskModel_readRule.2.1 141 = .ok (.invokevirtual 237, 3) := by decide +kernel
theorem d_TrustDeskModel_readRule_144 : decode kY_TrustDeskModel_readRule.2.1 144 = .ok (.aload_n 0, 1) := by decide +kernel
theorem d_TrustDeskModel_readRule_145 : decode kY_TrustDeskModel_readRule.2.1 145 = .ok (.ldc_w 333, 3) := by decide +kernel
theorem d_TrustDeskModel_readRule_148 : decode kY_TrustDeskModel_readRule.2.1 148 = .ok (.invokevirtual 329, 3) := by decide +kernel
theorem d_TrustDeskModel_readRule_151 : decode kY_TrustDeskModel_readRule.2.1 151 = .ok (.aload_n 0, 1) := by decide +kernel
theorem d_TrustDeskModel_readRule_152 : decode kY_TrustDeskModel_readRule.2.1 152 = .ok (.getfield 38, 3) := by decide +kernel
theorem d_TrustDeskModel_readRule_155 : decode kY_TrustDeskModel_readRule.2.1 155 = .ok (.iload_n 2, 1) := by decide +kernel
theorem d_TrustDeskModel_readRule_156 : decode kY_TrustDeskModel_readRule.2.1 156 = .ok (.aload_n 0, 1) := by decide +kernel
theorem d_TrustDeskModel_readRule_157 : decode kY_TrustDeskModel_readRule.2.1 157 = .ok (.getfield 20, 3) := by decide +kernel
theorem d_TrustDeskModel_readRule_160 : decode kY_TrustDeskModel_readRule.2.1 160 = .ok (.bipush 44, 2) := by decide +kernel
theorem d_TrustDeskModel_readRule_162 : decode kY_TrustDeskModel_readRule.2.1 162 = .ok (.iaload, 1) := by decide +kernel
theorem d_TrustDeskModel_readRule_163 : decode kY_TrustDeskModel_readRule.2.1 163 = .ok (.iastore, 1) := by decide +kernel
theorem d_TrustDeskModel_readRule_164 : decode kY_TrustDeskModel_readRule.2.1 164 = .ok (.aload_n 0, 1) := by decide +kernel
theorem d_TrustDeskModel_readRule_165 : decode kY_TrustDeskModel_readRule.2.1 165 = .ok (.invokevirtual 302, 3) := by decide +kernel
theorem d_TrustDeskModel_readRule_168 : decode kY_TrustDeskModel_readRule.2.1 168 = .ok (.goto 83, 3) := by decide +kernel
theorem d_TrustDeskModel_readRule_128 : decode kY_TrustDeskModel_readRule.2.1 128 = .ok (.aload_n 0, 1) := by decide +kernel
theorem d_TrustDeskModel_readRule_129 : decode kY_TrustDeskModel_readRule.2.1 129 = .ok (.iconst 1, 1) := by decide +kernel
theorem d_TrustDeskModel_readRule_130 : decode kY_TrustDeskModel_readRule.2.1 130 = .ok (.invokevirtual 240, 3) := by decide +kernel
theorem d_TrustDeskModel_readRule_112 : decode kY_TrustDeskModel_readRule.2.1 112 = .ok (.iconst 3, 1) := by decide +kernel
theorem d_TrustDeskModel_readRule_113 : decode kY_TrustDeskModel_readRule.2.1 113 = .ok (.goto 4, 3) := by decide +kernel
theorem d_TrustDeskModel_readRule_98 : decode kY_TrustDeskModel_readRule.2.1 98 = .ok (.iconst 2, 1) := by decide +kernel
theorem d_TrustDeskModel_readRule_99 : decode kY_TrustDeskModel_readRule.2.1 99 = .ok (.goto 18, 3) := by decide +kernel
theorem d_TrustDeskModel_readRule_84 : decode kY_TrustDeskModel_readRule.2.1 84 = .ok (.iconst 1, 1) := by decide +kernel
theorem d_TrustDeskModel_readRule_85 : decode kY_TrustDeskModel_readRule.2.1 85 = .ok (.goto 32, 3) := by decide +kernel
theorem d_TrustDeskModel_readRule_70 : decode kY_TrustDeskModel_readRule.2.1 70 = .ok (.iconst 0, 1) := by decide +kernel
theorem d_TrustDeskModel_readRule_71 : decode kY_TrustDeskModel_readRule.2.1 71 = .ok (.goto 46, 3) := by decide +kernel
theorem d_TrustDeskModel_readRule_30 : decode kY_TrustDeskModel_readRule.2.1 30 = .ok (.aload_n 0, 1) := by decide +kernel
theorem d_TrustDeskModel_readRule_31 : decode kY_TrustDeskModel_readRule.2.1 31 = .ok (.iconst 4, 1) := by decide +kernel
theorem d_TrustDeskModel_readRule_32 : decode kY_TrustDeskModel_readRule.2.1 32 = .ok (.invokevirtual 240, 3) := by decide +kernel
theorem d_TrustDeskModel_readRule_10 : decode kY_TrustDeskModel_readRule.2.1 10 = .ok (.aload_n 0, 1) := by decide +kernel
theorem d_TrustDeskModel_readRule_11 : decode kY_TrustDeskModel_readRule.2.1 11 = .ok (.iconst 1, 1) := by decide +kernel
theorem d_TrustDeskModel_readRule_12 : decode kY_TrustDeskModel_readRule.2.1 12 = .ok (.invokevirtual 240, 3) := by decide +kernel
theorem d_TrustDeskModel_readRule_15 : decode kY_TrustDeskModel_readRule.2.1 15 = .ok (.goto 20, 3) := by decide +kernel
def w_TrustDeskModel_readRule_x : List Nat := [1315, 1316, 1317, 1318, 1319, 1320, 1322, 20004, 20005, 20006, 20007, 20008, 20010, 20011, 20012]
theorem tc_TrustDeskModel_readRule_x {g : mj_G} {l : Launch} {d : Nat} {T0 : tm_H} {M0 : mj_M} {n0 x9 : Nat} {o0 : Nat} (h_o0 : T0 o0 = some (0, 13, 0)) (yR : rI M0 o0) (yWW : rW M0 o0) (yw : rv M0 o0 19 = 0) (yo : rv M0 o0 17 ≠ 0) (yq : rv M0 o0 22 = 0) (I0 : tm_I tm_FT (tm_in w_TrustDeskModel_readRule_x) x9 T0 M0 n0 T0 M0 n0) : mj_Met g l kY_TrustDeskModel_readRule (d + 25) [.ref o0] M0 n0 0 0 (tm_Q tm_FT (tm_in w_TrustDeskModel_readRule_x) x9 T0 M0 n0 (fun r _ M => r = none ∧ rI M o0 ∧ (rW M o0) ∧ (rO M0 M o0) ∧ (rv M0 o0 16 ≤ rv M o0 16 ∧ (rv M o0 19 = 0 → rv M0 o0 16 < rv M o0 16)) ∧ (rv M o0 19 = 0 → rv M o0 22 = 0))) := by
  refine mj_enter (by decide) (Nat.le_of_ble_eq_true rfl) ?_
  have yT := yWW.1
  have yS : rv M0 o0 19 = 0 → ra M0 o0 5 44 ≤ rv M0 o0 16 := fun h9 => (yWW.2 h9).1
  have yG := (yWW.2 yw).2
  have yN := yG.2.2
  have := yR.2 6 _ _ rfl 44
  have yE0 := rE.rf yT
  have K1 : rK M0 M0 o0 ((880 + ra M0 o0 6 44).toNat) := rK.rf
  have K2 : nN M0 o0 := yN
  refine mv_aload_n d_TrustDeskModel_readRule_0 rfl rfl ?_
  obtain ⟨_, b9, -⟩ := I0.1 _ _ h_o0
  refine mv_callV (kc' := 0) (ks' := 0) (As := []) (st9 := [.ref o0]) d_TrustDeskModel_readRule_1 lV_TrustDeskModel_365 b9 rfl (tc_TrustDeskModel_ruleWord_x (d := (d + 19)) (x9 := x9) (o0 := o0) h_o0 yR I0.start) rfl (Nat.le_of_ble_eq_true rfl) (Nat.le_of_ble_eq_true rfl) (Nat.le_of_ble_eq_true rfl) (hst := rfl) (fun b3r M4 n5 b3 => ?_)
  obtain ⟨T6, J7, v10, rfl, R11, f12⟩ := b3
  have I8 := I0.call J7 (tm_sub (by decide)) (Or.inl rfl)
  have t13 := J7.up h_o0
  have := (rv_c I0 J7 (I0.up h_o0) (k := 15) rfl)
  have := (rv_c I0 J7 (I0.up h_o0) (k := 16) rfl)
  have := (rv_c I0 J7 (I0.up h_o0) (k := 17) rfl)
  have := (rv_c I0 J7 (I0.up h_o0) (k := 19) rfl)
  have := (rv_c I0 J7 (I0.up h_o0) (k := 22) rfl)
  have := (rv_c I0 J7 (I0.up h_o0) (k := 24) rfl)
  have := ra_call I0 J7 (I0.up h_o0) (k := 5) rfl rfl rfl 44
  have := ra_call I0 J7 (I0.up h_o0) (k := 6) rfl rfl rfl 44
  have E14 : rE M0 M4 o0 0 0 := yE0.same (rE_hv I0 J7 (I0.up h_o0) 15 19 (by decide)) (rE_ha I0 J7 (I0.up h_o0) (by decide))
  have K15 : rK M0 M4 o0 ((880 + ra M0 o0 6 44).toNat) := K1.same (sA_c I0 J7 (I0.up h_o0) (by decide))
  have K16 : nN M4 o0 := K2.same (sA_c I0 J7 (I0.up h_o0) (by decide)) (sF_c I0 J7 (I0.up h_o0) (by decide))
  refine mv_istore_n (lv' := [(1, .int v10), (0, .ref o0)]) d_TrustDeskModel_readRule_4 rfl (by decide) rfl ?_
  refine mv_iload_n d_TrustDeskModel_readRule_5 rfl rfl ?_
  refine mv_iconst (v := (-1)) d_TrustDeskModel_readRule_6 (by decide) ?_
  have := mz_hi v10
  refine mv_icmp_neZ (tgt := 18) (a := v10.toInt) (b := (-1)) d_TrustDeskModel_readRule_7 (by decide) rfl (by decide) (fun b17 => ?_) (fun b17 => ?_)
  · refine mv_aload_n d_TrustDeskModel_readRule_18 rfl rfl ?_
    obtain ⟨a19, q18, t_a19⟩ := tm_atR I8 t13 (k := 6) rfl
    refine tr_getK q18 d_TrustDeskModel_readRule_19 f_TrustDeskModel_23_13 ?_
    refine mv_bipush (v := 44) d_TrustDeskModel_readRule_22 (by decide) ?_
    refine tr_ialdR (o := o0) (k := 6) I8 q18 t_a19 (by decide) d_TrustDeskModel_readRule_24 (by unfold vp_in; decide) (fun v20 e21 => ?_)
    have := R11.a (k := 6) rfl (44 : Int32).toNatClampNeg
    have : v20.toInt = ra M4 o0 6 44 := e21
    refine mv_bipush (v := 20) d_TrustDeskModel_readRule_25 (by decide) ?_
    have := mz_hi v20
    refine mv_icmp_neZ (tgt := 35) (a := v20.toInt) (b := 20) d_TrustDeskModel_readRule_27 (by decide) rfl (by decide) (fun b22 => ?_) (fun b22 => ?_)
    · refine mv_aload_n d_TrustDeskModel_readRule_35 rfl rfl ?_
      obtain ⟨_, b23, -⟩ := I8.1 _ _ t13
      refine mv_callV (kc1 := 0) (ks1 := 0) (kc' := 0) (ks' := 0) (As := []) (st9 := [.ref o0]) d_TrustDeskModel_readRule_36 lV_TrustDeskModel_230 b23 rfl (mj_enter (by decide) (Nat.le_of_ble_eq_true rfl) ?_) rfl (Nat.le_of_ble_eq_true rfl) (Nat.le_of_ble_eq_true rfl) (Nat.le_of_ble_eq_true rfl) (hst := rfl) (fun _ _ _ h => h)
      refine mv_aload_n d_TrustDeskModel_isWell_0 rfl rfl ?_
      obtain ⟨v25, q24⟩ := tm_atI I8 t13 (k := 19) rfl
      refine tr_getK q24 d_TrustDeskModel_isWell_1 f_TrustDeskModel_224_13 ?_
      have := R11.f (k := 19) q24 rfl
      have := tm_rv q24
      have := mz_hi v25
      refine mv_if_neZ (tgt := 11) (a := v25.toInt) d_TrustDeskModel_isWell_4 (by decide) rfl (fun b26 => ?_) (fun b26 => ?_)
      · refine mv_iconst (v := 0) d_TrustDeskModel_isWell_11 (by decide) ?_
        refine mv_iret d_TrustDeskModel_isWell_12 rfl (by decide) ?_
        refine mv_if_ne_f (tgt := 43) d_TrustDeskModel_readRule_39 (by decide) (by decide) ?_
        exact mv_vret d_TrustDeskModel_readRule_42 rfl ⟨_, I8, rfl, R11, (rW.of E14.1 (fun w9 => (by have := R11.1 15 _ _ rfl; have := R11.1 16 _ _ rfl; have := R11.1 19 _ _ rfl; have := E14.f yS; omega)) (fun w9 => rG.step yG yR E14 w9 K15 (by have := yR.2 6 _ _ rfl 44; omega) (by have := R11.1 15 _ _ rfl; have := R11.1 16 _ _ rfl; have := R11.1 19 _ _ rfl; have := E14.f yS; omega) (by have := R11.1 15 _ _ rfl; have := R11.1 16 _ _ rfl; have := R11.1 19 _ _ rfl; have := E14.f yS; omega) (fun h9 => by exfalso; have := R11.1 15 _ _ rfl; have := R11.1 16 _ _ rfl; have := R11.1 19 _ _ rfl; have := E14.f yS; omega) (fun h9 => (by have := R11.1 15 _ _ rfl; have := R11.1 16 _ _ rfl; have := R11.1 19 _ _ rfl; have := E14.f yS; omega)) (by have := R11.1 15 _ _ rfl; have := R11.1 16 _ _ rfl; have := R11.1 19 _ _ rfl; have := E14.f yS; omega) K16)), (rO.of E14 K15 (by have := yR.2 6 _ _ rfl 44; omega)), (by have := R11.1 15 _ _ rfl; have := R11.1 16 _ _ rfl; have := R11.1 19 _ _ rfl; have := E14.f yS; omega), (by have := R11.1 15 _ _ rfl; have := R11.1 16 _ _ rfl; have := R11.1 19 _ _ rfl; have := E14.f yS; omega)⟩
      · refine mv_iconst (v := 1) d_TrustDeskModel_isWell_7 (by decide) ?_
        refine mv_goto (tgt := 12) d_TrustDeskModel_isWell_8 (by decide) ?_
        refine mv_iret d_TrustDeskModel_isWell_12 rfl (by decide) ?_
        refine mv_if_ne_t (tgt := 43) d_TrustDeskModel_readRule_39 (by decide) (by decide) ?_
        refine mv_aload_n d_TrustDeskModel_readRule_43 rfl rfl ?_
        refine mv_iload_n d_TrustDeskModel_readRule_44 rfl rfl ?_
        obtain ⟨_, b33, -⟩ := I8.1 _ _ t13
        refine mv_callV (kc' := 0) (ks' := 0) (As := [.int v10]) (st9 := [.int v10, .ref o0]) d_TrustDeskModel_readRule_45 lV_TrustDeskModel_342 b33 rfl (tc_TrustDeskModel_begin_x (d := (d + 22)) (x9 := x9) (o0 := o0) (x1 := v10) t13 R11 E14.1 (by have := R11.1 15 _ _ rfl; have := R11.1 16 _ _ rfl; have := R11.1 19 _ _ rfl; have := E14.f yS; omega) (by have := R11.1 15 _ _ rfl; have := R11.1 16 _ _ rfl; have := R11.1 19 _ _ rfl; have := E14.f yS; omega) (by have := R11.1 15 _ _ rfl; have := R11.1 16 _ _ rfl; have := R11.1 19 _ _ rfl; have := E14.f yS; omega) (by have := R11.1 15 _ _ rfl; have := R11.1 16 _ _ rfl; have := R11.1 19 _ _ rfl; have := E14.f yS; omega) I8.start) rfl (Nat.le_of_ble_eq_true rfl) (Nat.le_of_ble_eq_true rfl) (Nat.le_of_ble_eq_true rfl) (hst := rfl) (fun b27r M28 n29 b27 => ?_)
        obtain ⟨T30, J31, v34, rfl, R35, f36, f37, f38, f39, f40, f41⟩ := b27
        have I32 := I8.call J31 (tm_sub (by decide)) (Or.inl rfl)
        have t42 := J31.up t13
        have := (rv_c I8 J31 (I8.up h_o0) (k := 19) rfl)
        have := (rv_c I8 J31 (I8.up h_o0) (k := 22) rfl)
        have := (rv_c I8 J31 (I8.up h_o0) (k := 24) rfl)
        have := ra_call I8 J31 (I8.up h_o0) (k := 5) rfl rfl rfl 44
        have E43 : rE M0 M28 o0 0 1 := E14.trans f36 (by decide) (yR.2 5 _ _ rfl 44).1 (by decide) (by decide)
        have := f36.w
        have := f36.w2
        have h44 : (880 + ra M4 o0 6 44).toNat = (880 + ra M0 o0 6 44).toNat := by omega
        rw [h44] at f39 f40 f41
        have K45 : rK M0 M28 o0 ((880 + ra M0 o0 6 44).toNat) := K15.trans f41
        have K46 : nN M28 o0 := K16.same (sA_c I8 J31 (I8.up h_o0) (by decide)) (sF_c I8 J31 (I8.up h_o0) (by decide))
        have q47 := J31.keep t13 (by decide) q18
        have t48 := J31.up t_a19
        have q49 := J31.keep t13 (by decide) q24
        refine mv_istore_n (lv' := [(2, .int v34), (1, .int v10), (0, .ref o0)]) d_TrustDeskModel_readRule_48 rfl (by decide) rfl ?_
        refine mv_iload_n d_TrustDeskModel_readRule_49 rfl rfl ?_
        refine mv_bipush (v := 6) d_TrustDeskModel_readRule_50 (by decide) ?_
        have := mz_hi v10
        refine mv_icmp_neZ (tgt := 171) (a := v10.toInt) (b := 6) d_TrustDeskModel_readRule_52 (by decide) rfl (by decide) (fun b50 => ?_) (fun b50 => ?_)
        · refine mv_iload_n d_TrustDeskModel_readRule_171 rfl rfl ?_
          refine mv_iconst (v := 1) d_TrustDeskModel_readRule_172 (by decide) ?_
          have := mz_hi v10
          refine mv_icmp_eqZ (tgt := 181) (a := v10.toInt) (b := 1) d_TrustDeskModel_readRule_173 (by decide) rfl (by decide) (fun b51 => ?_) (fun b51 => ?_)
          · refine mv_iconst (v := 0) d_TrustDeskModel_readRule_181 (by decide) ?_
            refine mv_goto (tgt := 186) d_TrustDeskModel_readRule_182 (by decide) ?_
            refine mv_istore_n (lv' := [(3, .int 0), (2, .int v34), (1, .int v10), (0, .ref o0)]) d_TrustDeskModel_readRule_186 rfl (by decide) rfl ?_
            refine mv_aload_n d_TrustDeskModel_readRule_187 rfl rfl ?_
            obtain ⟨a53, q52, t_a53⟩ := tm_atR I32 t42 (k := 8) rfl
            refine tr_getK q52 d_TrustDeskModel_readRule_188 f_TrustDeskModel_29_13 ?_
            refine mv_iload_n d_TrustDeskModel_readRule_191 rfl rfl ?_
            refine mv_aload_n d_TrustDeskModel_readRule_192 rfl rfl ?_
            refine mv_iload_n d_TrustDeskModel_readRule_193 rfl rfl ?_
            refine mv_iload_n d_TrustDeskModel_readRule_194 rfl rfl ?_
            have := mz_hi v10
            refine mv_if_neZ (tgt := 203) (a := v10.toInt) d_TrustDeskModel_readRule_195 (by decide) rfl (fun b54 => ?_) (fun b54 => absurd b54 (by omega))
            refine mv_iload_n d_TrustDeskModel_readRule_203 rfl rfl ?_
            refine mv_iconst (v := 1) d_TrustDeskModel_readRule_204 (by decide) ?_
            have := mz_hi v10
            refine mv_icmp_neZ (tgt := 213) (a := v10.toInt) (b := 1) d_TrustDeskModel_readRule_205 (by decide) rfl (by decide) (fun b55 => absurd b55 (by omega)) (fun b55 => ?_)
            refine mv_bipush (v := 8) d_TrustDeskModel_readRule_208 (by decide) ?_
            refine mv_goto (tgt := 247) d_TrustDeskModel_readRule_210 (by decide) ?_
            obtain ⟨_, b62, -⟩ := I32.1 _ _ t42
            have : (0 : Int32).toInt = 0 := by decide
            have : (8 : Int32).toInt = 8 := by decide
            refine mv_callV (kc' := 0) (ks' := 0) (As := [.int 0, .int 8]) (st9 := [.int 8, .int 0, .ref o0, .int v34, .ref a53]) d_TrustDeskModel_readRule_247 lV_TrustDeskModel_317 b62 rfl (tc_TrustDeskModel_number_x (d := (d + 22)) (x9 := x9) (o0 := o0) (x1 := 0) (x2 := 8) t42 R35 E43.1 (by have := R35.1 15 _ _ rfl; have := R35.1 16 _ _ rfl; have := R35.1 19 _ _ rfl; have := E43.f yS; omega) I32.start) rfl (Nat.le_of_ble_eq_true rfl) (Nat.le_of_ble_eq_true rfl) (Nat.le_of_ble_eq_true rfl) (hst := rfl) (fun b56r M57 n58 b56 => ?_)
            obtain ⟨T59, J60, v63, rfl, R64, f65, f66⟩ := b56
            have I61 := I32.call J60 (tm_sub (by decide)) (Or.inl rfl)
            have t67 := J60.up t42
            have t68 := J60.up t_a53
            have := (rv_c I32 J60 (I32.up h_o0) (k := 22) rfl)
            have := (rv_c I32 J60 (I32.up h_o0) (k := 24) rfl)
            have := ra_call I32 J60 (I32.up h_o0) (k := 5) rfl rfl rfl 44
            have := ra_call I32 J60 (I32.up h_o0) (k := 6) rfl rfl rfl 44
            have E69 : rE M0 M57 o0 0 2 := E43.trans f65 (by decide) (yR.2 5 _ _ rfl 44).1 (by decide) (by decide)
            have := f65.w
            have := f65.w2
            have := ra_call I32 J60 (I32.up h_o0) (k := 7) rfl rfl rfl ((880 + ra M0 o0 6 44).toNat)
            have := ra_call I32 J60 (I32.up h_o0) (k := 10) rfl rfl rfl ((880 + ra M0 o0 6 44).toNat)
            have K70 : rK M0 M57 o0 ((880 + ra M0 o0 6 44).toNat) := K45.same (sA_c I32 J60 (I32.up h_o0) (by decide))
            have K71 : nN M57 o0 := K46.same (sA_c I32 J60 (I32.up h_o0) (by decide)) (sF_c I32 J60 (I32.up h_o0) (by decide))
            have q72 := J60.keep t42 (by decide) q47
            have t73 := J60.up t48
            have q74 := J60.keep t42 (by decide) q52
            refine tr_iastR (k := 8) I61 R64 (I61.up h_o0) q74 t68 (by decide) (by decide) (fun lo hi h => by cases h; have := R64.1 15 _ _ rfl; have := R64.1 16 _ _ rfl; have := R64.1 19 _ _ rfl; have := E69.f yS; exact ⟨by show ((-1) : Int) ≤ v63.toInt; omega, by show v63.toInt ≤ (720 : Int); omega⟩) (Or.inl (by decide)) d_TrustDeskModel_readRule_250 (vp_in_iff.mpr (by have := R64.1 15 _ _ rfl; have := R64.1 16 _ _ rfl; have := R64.1 19 _ _ rfl; have := E69.f yS; omega)) (fun M75 I76 K77 R78 E79 A80 V81 => ?_)
            have := V81 15
            have := V81 16
            have := V81 17
            have := V81 19
            have := V81 22
            have := V81 24
            have := A80 5 (by decide) rfl 44
            have := A80 6 (by decide) rfl 44
            have E82 : rE M0 M75 o0 0 2 := E69.same (fun k _ _ => V81 k) (fun k h1 h2 => A80 k (by omega) (by rcases (show k = 4 ∨ k = 5 by omega) with rfl | rfl <;> rfl))
            have := A80 7 (by decide) rfl ((880 + ra M0 o0 6 44).toNat)
            have := A80 10 (by decide) rfl ((880 + ra M0 o0 6 44).toNat)
            have h83 : (880 + ra M0 o0 6 44).toNat = v34.toNatClampNeg := by have := mz_nat9 (i := v34) (by have := R64.1 15 _ _ rfl; have := R64.1 16 _ _ rfl; have := R64.1 19 _ _ rfl; have := E69.f yS; omega); have := R64.1 15 _ _ rfl; have := R64.1 16 _ _ rfl; have := R64.1 19 _ _ rfl; have := E69.f yS; omega
            have : ra M75 o0 8 ((880 + ra M0 o0 6 44).toNat) = v63.toInt := (E79 _).trans (if_pos h83)
            have K84 : rK M0 M75 o0 ((880 + ra M0 o0 6 44).toNat) := K70.st A80 E79 (by have := mz_nat9 (i := v34) (by have := R64.1 15 _ _ rfl; have := R64.1 16 _ _ rfl; have := R64.1 19 _ _ rfl; have := E69.f yS; omega); have := R64.1 15 _ _ rfl; have := R64.1 16 _ _ rfl; have := R64.1 19 _ _ rfl; have := E69.f yS; omega)
            have K85 : nN M75 o0 := K71.same (sA_a A80 (by decide)) (sF_a V81)
            refine mv_aload_n d_TrustDeskModel_readRule_251 rfl rfl ?_
            refine mv_bipush (v := 59) d_TrustDeskModel_readRule_252 (by decide) ?_
            obtain ⟨_, b92, -⟩ := I76.1 _ _ t67
            have : (59 : Int32).toInt = 59 := by decide
            refine mv_callV (kc' := 0) (ks' := 0) (As := [.int 59]) (st9 := [.int 59, .ref o0]) d_TrustDeskModel_readRule_254 lV_TrustDeskModel_291 b92 rfl (tc_TrustDeskModel_wantSign_x (d := (d + 22)) (x9 := x9) (o0 := o0) (x1 := 59) t67 R78 E82.1 (by have := R78.1 15 _ _ rfl; have := R78.1 16 _ _ rfl; have := R78.1 19 _ _ rfl; have := E82.f yS; omega) I76.start) rfl (Nat.le_of_ble_eq_true rfl) (Nat.le_of_ble_eq_true rfl) (Nat.le_of_ble_eq_true rfl) (hst := rfl) (fun b86r M87 n88 b86 => ?_)
            obtain ⟨T89, J90, rfl, R93, f94⟩ := b86
            have I91 := I76.call J90 (tm_sub (by decide)) (Or.inl rfl)
            have t95 := J90.up t67
            have := (rv_c I76 J90 (I76.up h_o0) (k := 22) rfl)
            have := (rv_c I76 J90 (I76.up h_o0) (k := 24) rfl)
            have := ra_call I76 J90 (I76.up h_o0) (k := 5) rfl rfl rfl 44
            have := ra_call I76 J90 (I76.up h_o0) (k := 6) rfl rfl rfl 44
            have E96 : rE M0 M87 o0 0 3 := E82.trans f94 (by decide) (yR.2 5 _ _ rfl 44).1 (by decide) (by decide)
            have := f94.w
            have := f94.w2
            have := ra_call I76 J90 (I76.up h_o0) (k := 7) rfl rfl rfl ((880 + ra M0 o0 6 44).toNat)
            have := ra_call I76 J90 (I76.up h_o0) (k := 10) rfl rfl rfl ((880 + ra M0 o0 6 44).toNat)
            have := ra_call I76 J90 (I76.up h_o0) (k := 8) rfl rfl rfl ((880 + ra M0 o0 6 44).toNat)
            have K97 : rK M0 M87 o0 ((880 + ra M0 o0 6 44).toNat) := K84.same (sA_c I76 J90 (I76.up h_o0) (by decide))
            have K98 : nN M87 o0 := K85.same (sA_c I76 J90 (I76.up h_o0) (by decide)) (sF_c I76 J90 (I76.up h_o0) (by decide))
            have q99 := J90.keep t67 (by decide) (K77 _ 13 6 _ q72)
            have t100 := J90.up t73
            have q101 := J90.keep t67 (by decide) (K77 _ 13 8 _ q74)
            have t102 := J90.up t68
            refine mv_aload_n d_TrustDeskModel_readRule_257 rfl rfl ?_
            obtain ⟨a104, q103, t_a104⟩ := tm_atR I91 t95 (k := 12) rfl
            refine tr_getK q103 d_TrustDeskModel_readRule_258 f_TrustDeskModel_41_13 ?_
            refine mv_iload_n d_TrustDeskModel_readRule_261 rfl rfl ?_
            refine mv_aload_n d_TrustDeskModel_readRule_262 rfl rfl ?_
            obtain ⟨a106, q105, t_a106⟩ := tm_atR I91 t95 (k := 5) rfl
            refine tr_getK q105 d_TrustDeskModel_readRule_263 f_TrustDeskModel_20_13 ?_
            refine mv_bipush (v := 44) d_TrustDeskModel_readRule_266 (by decide) ?_
            refine tr_ialdR (o := o0) (k := 5) I91 q105 t_a106 (by decide) d_TrustDeskModel_readRule_268 (by unfold vp_in; decide) (fun v107 e108 => ?_)
            have := R93.a (k := 5) rfl (44 : Int32).toNatClampNeg
            have : v107.toInt = ra M87 o0 5 44 := e108
            refine tr_iastR (k := 12) I91 R93 (I91.up h_o0) q103 t_a104 (by decide) (by decide) (fun lo hi h => by cases h; have := R93.1 15 _ _ rfl; have := R93.1 16 _ _ rfl; have := R93.1 19 _ _ rfl; have := E96.f yS; exact ⟨by show (0 : Int) ≤ v107.toInt; omega, by show v107.toInt ≤ (400 : Int); omega⟩) (Or.inl (by decide)) d_TrustDeskModel_readRule_269 (vp_in_iff.mpr (by have := R93.1 15 _ _ rfl; have := R93.1 16 _ _ rfl; have := R93.1 19 _ _ rfl; have := E96.f yS; omega)) (fun M109 I110 K111 R112 E113 A114 V115 => ?_)
            have := V115 15
            have := V115 16
            have := V115 17
            have := V115 19
            have := V115 22
            have := V115 24
            have := A114 5 (by decide) rfl 44
            have := A114 6 (by decide) rfl 44
            have E116 : rE M0 M109 o0 0 3 := E96.same (fun k _ _ => V115 k) (fun k h1 h2 => A114 k (by omega) (by rcases (show k = 4 ∨ k = 5 by omega) with rfl | rfl <;> rfl))
            have := A114 7 (by decide) rfl ((880 + ra M0 o0 6 44).toNat)
            have := A114 10 (by decide) rfl ((880 + ra M0 o0 6 44).toNat)
            have := A114 8 (by decide) rfl ((880 + ra M0 o0 6 44).toNat)
            have h117 : (880 + ra M0 o0 6 44).toNat = v34.toNatClampNeg := by have := mz_nat9 (i := v34) (by have := R93.1 15 _ _ rfl; have := R93.1 16 _ _ rfl; have := R93.1 19 _ _ rfl; have := E96.f yS; omega); have := R93.1 15 _ _ rfl; have := R93.1 16 _ _ rfl; have := R93.1 19 _ _ rfl; have := E96.f yS; omega
            have : ra M109 o0 12 ((880 + ra M0 o0 6 44).toNat) = v107.toInt := (E113 _).trans (if_pos h117)
            have K118 : rK M0 M109 o0 ((880 + ra M0 o0 6 44).toNat) := K97.st A114 E113 (by have := mz_nat9 (i := v34) (by have := R93.1 15 _ _ rfl; have := R93.1 16 _ _ rfl; have := R93.1 19 _ _ rfl; have := E96.f yS; omega); have := R93.1 15 _ _ rfl; have := R93.1 16 _ _ rfl; have := R93.1 19 _ _ rfl; have := E96.f yS; omega)
            have K119 : nN M109 o0 := K98.same (sA_a A114 (by decide)) (sF_a V115)
            exact mv_vret d_TrustDeskModel_readRule_270 rfl ⟨_, I110, rfl, R112, (rW.of E116.1 (fun w9 => (by have := R112.1 15 _ _ rfl; have := R112.1 16 _ _ rfl; have := R112.1 19 _ _ rfl; have := E116.f yS; omega)) (fun w9 => rG.step yG yR E116 w9 K118 (by have := yR.2 6 _ _ rfl 44; omega) (by have := R112.1 15 _ _ rfl; have := R112.1 16 _ _ rfl; have := R112.1 19 _ _ rfl; have := E116.f yS; omega) (by have := R112.1 15 _ _ rfl; have := R112.1 16 _ _ rfl; have := R112.1 19 _ _ rfl; have := E116.f yS; omega) (fun h9 => by exfalso; have := R112.1 15 _ _ rfl; have := R112.1 16 _ _ rfl; have := R112.1 19 _ _ rfl; have := E116.f yS; omega) (fun h9 => (by have := R112.1 15 _ _ rfl; have := R112.1 16 _ _ rfl; have := R112.1 19 _ _ rfl; have := E116.f yS; omega)) (by have := R112.1 15 _ _ rfl; have := R112.1 16 _ _ rfl; have := R112.1 19 _ _ rfl; have := E116.f yS; omega) K119)), (rO.of E116 K118 (by have := yR.2 6 _ _ rfl 44; omega)), (by have := R112.1 15 _ _ rfl; have := R112.1 16 _ _ rfl; have := R112.1 19 _ _ rfl; have := E116.f yS; omega), (by have := R112.1 15 _ _ rfl; have := R112.1 16 _ _ rfl; have := R112.1 19 _ _ rfl; have := E116.f yS; omega)⟩
          · refine mv_iload_n d_TrustDeskModel_readRule_176 rfl rfl ?_
            refine mv_iconst (v := 4) d_TrustDeskModel_readRule_177 (by decide) ?_
            have := mz_hi v10
            refine mv_icmp_neZ (tgt := 185) (a := v10.toInt) (b := 4) d_TrustDeskModel_readRule_178 (by decide) rfl (by decide) (fun b120 => ?_) (fun b120 => ?_)
            · refine mv_iconst (v := 1) d_TrustDeskModel_readRule_185 (by decide) ?_
              refine mv_istore_n (lv' := [(3, .int 1), (2, .int v34), (1, .int v10), (0, .ref o0)]) d_TrustDeskModel_readRule_186 rfl (by decide) rfl ?_
              refine mv_aload_n d_TrustDeskModel_readRule_187 rfl rfl ?_
              obtain ⟨a122, q121, t_a122⟩ := tm_atR I32 t42 (k := 8) rfl
              refine tr_getK q121 d_TrustDeskModel_readRule_188 f_TrustDeskModel_29_13 ?_
              refine mv_iload_n d_TrustDeskModel_readRule_191 rfl rfl ?_
              refine mv_aload_n d_TrustDeskModel_readRule_192 rfl rfl ?_
              refine mv_iload_n d_TrustDeskModel_readRule_193 rfl rfl ?_
              refine mv_iload_n d_TrustDeskModel_readRule_194 rfl rfl ?_
              have := mz_hi v10
              refine mv_if_neZ (tgt := 203) (a := v10.toInt) d_TrustDeskModel_readRule_195 (by decide) rfl (fun b123 => ?_) (fun b123 => ?_)
              · refine mv_iload_n d_TrustDeskModel_readRule_203 rfl rfl ?_
                refine mv_iconst (v := 1) d_TrustDeskModel_readRule_204 (by decide) ?_
                have := mz_hi v10
                refine mv_icmp_neZ (tgt := 213) (a := v10.toInt) (b := 1) d_TrustDeskModel_readRule_205 (by decide) rfl (by decide) (fun b124 => ?_) (fun b124 => ?_)
                · refine mv_iload_n d_TrustDeskModel_readRule_213 rfl rfl ?_
                  refine mv_iconst (v := 2) d_TrustDeskModel_readRule_214 (by decide) ?_
                  have := mz_hi v10
                  refine mv_icmp_neZ (tgt := 224) (a := v10.toInt) (b := 2) d_TrustDeskModel_readRule_215 (by decide) rfl (by decide) (fun b125 => ?_) (fun b125 => ?_)
                  · refine mv_iload_n d_TrustDeskModel_readRule_224 rfl rfl ?_
                    refine mv_iconst (v := 3) d_TrustDeskModel_readRule_225 (by decide) ?_
                    have := mz_hi v10
                    refine mv_icmp_neZ (tgt := 235) (a := v10.toInt) (b := 3) d_TrustDeskModel_readRule_226 (by decide) rfl (by decide) (fun b126 => ?_) (fun b126 => ?_)
                    · refine mv_iload_n d_TrustDeskModel_readRule_235 rfl rfl ?_
                      refine mv_iconst (v := 4) d_TrustDeskModel_readRule_236 (by decide) ?_
                      have := mz_hi v10
                      refine mv_icmp_neZ (tgt := 245) (a := v10.toInt) (b := 4) d_TrustDeskModel_readRule_237 (by decide) rfl (by decide) (fun b127 => ?_) (fun b127 => ?_)
                      · refine mv_bipush (v := 40) d_TrustDeskModel_readRule_245 (by decide) ?_
                        obtain ⟨_, b134, -⟩ := I32.1 _ _ t42
                        have : (1 : Int32).toInt = 1 := by decide
                        have : (40 : Int32).toInt = 40 := by decide
                        refine mv_callV (kc' := 0) (ks' := 0) (As := [.int 1, .int 40]) (st9 := [.int 40, .int 1, .ref o0, .int v34, .ref a122]) d_TrustDeskModel_readRule_247 lV_TrustDeskModel_317 b134 rfl (tc_TrustDeskModel_number_x (d := (d + 22)) (x9 := x9) (o0 := o0) (x1 := 1) (x2 := 40) t42 R35 E43.1 (by have := R35.1 15 _ _ rfl; have := R35.1 16 _ _ rfl; have := R35.1 19 _ _ rfl; have := E43.f yS; omega) I32.start) rfl (Nat.le_of_ble_eq_true rfl) (Nat.le_of_ble_eq_true rfl) (Nat.le_of_ble_eq_true rfl) (hst := rfl) (fun b128r M129 n130 b128 => ?_)
                        obtain ⟨T131, J132, v135, rfl, R136, f137, f138⟩ := b128
                        have I133 := I32.call J132 (tm_sub (by decide)) (Or.inl rfl)
                        have t139 := J132.up t42
                        have t140 := J132.up t_a122
                        have := (rv_c I32 J132 (I32.up h_o0) (k := 22) rfl)
                        have := (rv_c I32 J132 (I32.up h_o0) (k := 24) rfl)
                        have := ra_call I32 J132 (I32.up h_o0) (k := 5) rfl rfl rfl 44
                        have := ra_call I32 J132 (I32.up h_o0) (k := 6) rfl rfl rfl 44
                        have E141 : rE M0 M129 o0 0 2 := E43.trans f137 (by decide) (yR.2 5 _ _ rfl 44).1 (by decide) (by decide)
                        have := f137.w
                        have := f137.w2
                        have := ra_call I32 J132 (I32.up h_o0) (k := 7) rfl rfl rfl ((880 + ra M0 o0 6 44).toNat)
                        have := ra_call I32 J132 (I32.up h_o0) (k := 10) rfl rfl rfl ((880 + ra M0 o0 6 44).toNat)
                        have K142 : rK M0 M129 o0 ((880 + ra M0 o0 6 44).toNat) := K45.same (sA_c I32 J132 (I32.up h_o0) (by decide))
                        have K143 : nN M129 o0 := K46.same (sA_c I32 J132 (I32.up h_o0) (by decide)) (sF_c I32 J132 (I32.up h_o0) (by decide))
                        have q144 := J132.keep t42 (by decide) q47
                        have t145 := J132.up t48
                        have q146 := J132.keep t42 (by decide) q121
                        refine tr_iastR (k := 8) I133 R136 (I133.up h_o0) q146 t140 (by decide) (by decide) (fun lo hi h => by cases h; have := R136.1 15 _ _ rfl; have := R136.1 16 _ _ rfl; have := R136.1 19 _ _ rfl; have := E141.f yS; exact ⟨by show ((-1) : Int) ≤ v135.toInt; omega, by show v135.toInt ≤ (720 : Int); omega⟩) (Or.inl (by decide)) d_TrustDeskModel_readRule_250 (vp_in_iff.mpr (by have := R136.1 15 _ _ rfl; have := R136.1 16 _ _ rfl; have := R136.1 19 _ _ rfl; have := E141.f yS; omega)) (fun M147 I148 K149 R150 E151 A152 V153 => ?_)
                        have := V153 15
                        have := V153 16
                        have := V153 17
                        have := V153 19
                        have := V153 22
                        have := V153 24
                        have := A152 5 (by decide) rfl 44
                        have := A152 6 (by decide) rfl 44
                        have E154 : rE M0 M147 o0 0 2 := E141.same (fun k _ _ => V153 k) (fun k h1 h2 => A152 k (by omega) (by rcases (show k = 4 ∨ k = 5 by omega) with rfl | rfl <;> rfl))
                        have := A152 7 (by decide) rfl ((880 + ra M0 o0 6 44).toNat)
                        have := A152 10 (by decide) rfl ((880 + ra M0 o0 6 44).toNat)
                        have h155 : (880 + ra M0 o0 6 44).toNat = v34.toNatClampNeg := by have := mz_nat9 (i := v34) (by have := R136.1 15 _ _ rfl; have := R136.1 16 _ _ rfl; have := R136.1 19 _ _ rfl; have := E141.f yS; omega); have := R136.1 15 _ _ rfl; have := R136.1 16 _ _ rfl; have := R136.1 19 _ _ rfl; have := E141.f yS; omega
                        have : ra M147 o0 8 ((880 + ra M0 o0 6 44).toNat) = v135.toInt := (E151 _).trans (if_pos h155)
                        have K156 : rK M0 M147 o0 ((880 + ra M0 o0 6 44).toNat) := K142.st A152 E151 (by have := mz_nat9 (i := v34) (by have := R136.1 15 _ _ rfl; have := R136.1 16 _ _ rfl; have := R136.1 19 _ _ rfl; have := E141.f yS; omega); have := R136.1 15 _ _ rfl; have := R136.1 16 _ _ rfl; have := R136.1 19 _ _ rfl; have := E141.f yS; omega)
                        have K157 : nN M147 o0 := K143.same (sA_a A152 (by decide)) (sF_a V153)
                        refine mv_aload_n d_TrustDeskModel_readRule_251 rfl rfl ?_
                        refine mv_bipush (v := 59) d_TrustDeskModel_readRule_252 (by decide) ?_
                        obtain ⟨_, b164, -⟩ := I148.1 _ _ t139
                        have : (59 : Int32).toInt = 59 := by decide
                        refine mv_callV (kc' := 0) (ks' := 0) (As := [.int 59]) (st9 := [.int 59, .ref o0]) d_TrustDeskModel_readRule_254 lV_TrustDeskModel_291 b164 rfl (tc_TrustDeskModel_wantSign_x (d := (d + 22)) (x9 := x9) (o0 := o0) (x1 := 59) t139 R150 E154.1 (by have := R150.1 15 _ _ rfl; have := R150.1 16 _ _ rfl; have := R150.1 19 _ _ rfl; have := E154.f yS; omega) I148.start) rfl (Nat.le_of_ble_eq_true rfl) (Nat.le_of_ble_eq_true rfl) (Nat.le_of_ble_eq_true rfl) (hst := rfl) (fun b158r M159 n160 b158 => ?_)
                        obtain ⟨T161, J162, rfl, R165, f166⟩ := b158
                        have I163 := I148.call J162 (tm_sub (by decide)) (Or.inl rfl)
                        have t167 := J162.up t139
                        have := (rv_c I148 J162 (I148.up h_o0) (k := 22) rfl)
                        have := (rv_c I148 J162 (I148.up h_o0) (k := 24) rfl)
                        have := ra_call I148 J162 (I148.up h_o0) (k := 5) rfl rfl rfl 44
                        have := ra_call I148 J162 (I148.up h_o0) (k := 6) rfl rfl rfl 44
                        have E168 : rE M0 M159 o0 0 3 := E154.trans f166 (by decide) (yR.2 5 _ _ rfl 44).1 (by decide) (by decide)
                        have := f166.w
                        have := f166.w2
                        have := ra_call I148 J162 (I148.up h_o0) (k := 7) rfl rfl rfl ((880 + ra M0 o0 6 44).toNat)
                        have := ra_call I148 J162 (I148.up h_o0) (k := 10) rfl rfl rfl ((880 + ra M0 o0 6 44).toNat)
                        have := ra_call I148 J162 (I148.up h_o0) (k := 8) rfl rfl rfl ((880 + ra M0 o0 6 44).toNat)
                        have K169 : rK M0 M159 o0 ((880 + ra M0 o0 6 44).toNat) := K156.same (sA_c I148 J162 (I148.up h_o0) (by decide))
                        have K170 : nN M159 o0 := K157.same (sA_c I148 J162 (I148.up h_o0) (by decide)) (sF_c I148 J162 (I148.up h_o0) (by decide))
                        have q171 := J162.keep t139 (by decide) (K149 _ 13 6 _ q144)
                        have t172 := J162.up t145
                        have q173 := J162.keep t139 (by decide) (K149 _ 13 8 _ q146)
                        have t174 := J162.up t140
                        refine mv_aload_n d_TrustDeskModel_readRule_257 rfl rfl ?_
                        obtain ⟨a176, q175, t_a176⟩ := tm_atR I163 t167 (k := 12) rfl
                        refine tr_getK q175 d_TrustDeskModel_readRule_258 f_TrustDeskModel_41_13 ?_
                        refine mv_iload_n d_TrustDeskModel_readRule_261 rfl rfl ?_
                        refine mv_aload_n d_TrustDeskModel_readRule_262 rfl rfl ?_
                        obtain ⟨a178, q177, t_a178⟩ := tm_atR I163 t167 (k := 5) rfl
                        refine tr_getK q177 d_TrustDeskModel_readRule_263 f_TrustDeskModel_20_13 ?_
                        refine mv_bipush (v := 44) d_TrustDeskModel_readRule_266 (by decide) ?_
                        refine tr_ialdR (o := o0) (k := 5) I163 q177 t_a178 (by decide) d_TrustDeskModel_readRule_268 (by unfold vp_in; decide) (fun v179 e180 => ?_)
                        have := R165.a (k := 5) rfl (44 : Int32).toNatClampNeg
                        have : v179.toInt = ra M159 o0 5 44 := e180
                        refine tr_iastR (k := 12) I163 R165 (I163.up h_o0) q175 t_a176 (by decide) (by decide) (fun lo hi h => by cases h; have := R165.1 15 _ _ rfl; have := R165.1 16 _ _ rfl; have := R165.1 19 _ _ rfl; have := E168.f yS; exact ⟨by show (0 : Int) ≤ v179.toInt; omega, by show v179.toInt ≤ (400 : Int); omega⟩) (Or.inl (by decide)) d_TrustDeskModel_readRule_269 (vp_in_iff.mpr (by have := R165.1 15 _ _ rfl; have := R165.1 16 _ _ rfl; have := R165.1 19 _ _ rfl; have := E168.f yS; omega)) (fun M181 I182 K183 R184 E185 A186 V187 => ?_)
                        have := V187 15
                        have := V187 16
                        have := V187 17
                        have := V187 19
                        have := V187 22
                        have := V187 24
                        have := A186 5 (by decide) rfl 44
                        have := A186 6 (by decide) rfl 44
                        have E188 : rE M0 M181 o0 0 3 := E168.same (fun k _ _ => V187 k) (fun k h1 h2 => A186 k (by omega) (by rcases (show k = 4 ∨ k = 5 by omega) with rfl | rfl <;> rfl))
                        have := A186 7 (by decide) rfl ((880 + ra M0 o0 6 44).toNat)
                        have := A186 10 (by decide) rfl ((880 + ra M0 o0 6 44).toNat)
                        have := A186 8 (by decide) rfl ((880 + ra M0 o0 6 44).toNat)
                        have h189 : (880 + ra M0 o0 6 44).toNat = v34.toNatClampNeg := by have := mz_nat9 (i := v34) (by have := R165.1 15 _ _ rfl; have := R165.1 16 _ _ rfl; have := R165.1 19 _ _ rfl; have := E168.f yS; omega); have := R165.1 15 _ _ rfl; have := R165.1 16 _ _ rfl; have := R165.1 19 _ _ rfl; have := E168.f yS; omega
                        have : ra M181 o0 12 ((880 + ra M0 o0 6 44).toNat) = v179.toInt := (E185 _).trans (if_pos h189)
                        have K190 : rK M0 M181 o0 ((880 + ra M0 o0 6 44).toNat) := K169.st A186 E185 (by have := mz_nat9 (i := v34) (by have := R165.1 15 _ _ rfl; have := R165.1 16 _ _ rfl; have := R165.1 19 _ _ rfl; have := E168.f yS; omega); have := R165.1 15 _ _ rfl; have := R165.1 16 _ _ rfl; have := R165.1 19 _ _ rfl; have := E168.f yS; omega)
                        have K191 : nN M181 o0 := K170.same (sA_a A186 (by decide)) (sF_a V187)
                        exact mv_vret d_TrustDeskModel_readRule_270 rfl ⟨_, I182, rfl, R184, (rW.of E188.1 (fun w9 => (by have := R184.1 15 _ _ rfl; have := R184.1 16 _ _ rfl; have := R184.1 19 _ _ rfl; have := E188.f yS; omega)) (fun w9 => rG.step yG yR E188 w9 K190 (by have := yR.2 6 _ _ rfl 44; omega) (by have := R184.1 15 _ _ rfl; have := R184.1 16 _ _ rfl; have := R184.1 19 _ _ rfl; have := E188.f yS; omega) (by have := R184.1 15 _ _ rfl; have := R184.1 16 _ _ rfl; have := R184.1 19 _ _ rfl; have := E188.f yS; omega) (fun h9 => by exfalso; have := R184.1 15 _ _ rfl; have := R184.1 16 _ _ rfl; have := R184.1 19 _ _ rfl; have := E188.f yS; omega) (fun h9 => (by have := R184.1 15 _ _ rfl; have := R184.1 16 _ _ rfl; have := R184.1 19 _ _ rfl; have := E188.f yS; omega)) (by have := R184.1 15 _ _ rfl; have := R184.1 16 _ _ rfl; have := R184.1 19 _ _ rfl; have := E188.f yS; omega) K191)), (rO.of E188 K190 (by have := yR.2 6 _ _ rfl 44; omega)), (by have := R184.1 15 _ _ rfl; have := R184.1 16 _ _ rfl; have := R184.1 19 _ _ rfl; have := E188.f yS; omega), (by have := R184.1 15 _ _ rfl; have := R184.1 16 _ _ rfl; have := R184.1 19 _ _ rfl; have := E188.f yS; omega)⟩
                      · refine mv_bipush (v := 20) d_TrustDeskModel_readRule_240 (by decide) ?_
                        refine mv_goto (tgt := 247) d_TrustDeskModel_readRule_242 (by decide) ?_
                        obtain ⟨_, b198, -⟩ := I32.1 _ _ t42
                        have : (1 : Int32).toInt = 1 := by decide
                        have : (20 : Int32).toInt = 20 := by decide
                        refine mv_callV (kc' := 0) (ks' := 0) (As := [.int 1, .int 20]) (st9 := [.int 20, .int 1, .ref o0, .int v34, .ref a122]) d_TrustDeskModel_readRule_247 lV_TrustDeskModel_317 b198 rfl (tc_TrustDeskModel_number_x (d := (d + 22)) (x9 := x9) (o0 := o0) (x1 := 1) (x2 := 20) t42 R35 E43.1 (by have := R35.1 15 _ _ rfl; have := R35.1 16 _ _ rfl; have := R35.1 19 _ _ rfl; have := E43.f yS; omega) I32.start) rfl (Nat.le_of_ble_eq_true rfl) (Nat.le_of_ble_eq_true rfl) (Nat.le_of_ble_eq_true rfl) (hst := rfl) (fun b192r M193 n194 b192 => ?_)
                        obtain ⟨T195, J196, v199, rfl, R200, f201, f202⟩ := b192
                        have I197 := I32.call J196 (tm_sub (by decide)) (Or.inl rfl)
                        have t203 := J196.up t42
                        have t204 := J196.up t_a122
                        have := (rv_c I32 J196 (I32.up h_o0) (k := 22) rfl)
                        have := (rv_c I32 J196 (I32.up h_o0) (k := 24) rfl)
                        have := ra_call I32 J196 (I32.up h_o0) (k := 5) rfl rfl rfl 44
                        have := ra_call I32 J196 (I32.up h_o0) (k := 6) rfl rfl rfl 44
                        have E205 : rE M0 M193 o0 0 2 := E43.trans f201 (by decide) (yR.2 5 _ _ rfl 44).1 (by decide) (by decide)
                        have := f201.w
                        have := f201.w2
                        have := ra_call I32 J196 (I32.up h_o0) (k := 7) rfl rfl rfl ((880 + ra M0 o0 6 44).toNat)
                        have := ra_call I32 J196 (I32.up h_o0) (k := 10) rfl rfl rfl ((880 + ra M0 o0 6 44).toNat)
                        have K206 : rK M0 M193 o0 ((880 + ra M0 o0 6 44).toNat) := K45.same (sA_c I32 J196 (I32.up h_o0) (by decide))
                        have K207 : nN M193 o0 := K46.same (sA_c I32 J196 (I32.up h_o0) (by decide)) (sF_c I32 J196 (I32.up h_o0) (by decide))
                        have q208 := J196.keep t42 (by decide) q47
                        have t209 := J196.up t48
                        have q210 := J196.keep t42 (by decide) q121
                        refine tr_iastR (k := 8) I197 R200 (I197.up h_o0) q210 t204 (by decide) (by decide) (fun lo hi h => by cases h; have := R200.1 15 _ _ rfl; have := R200.1 16 _ _ rfl; have := R200.1 19 _ _ rfl; have := E205.f yS; exact ⟨by show ((-1) : Int) ≤ v199.toInt; omega, by show v199.toInt ≤ (720 : Int); omega⟩) (Or.inl (by decide)) d_TrustDeskModel_readRule_250 (vp_in_iff.mpr (by have := R200.1 15 _ _ rfl; have := R200.1 16 _ _ rfl; have := R200.1 19 _ _ rfl; have := E205.f yS; omega)) (fun M211 I212 K213 R214 E215 A216 V217 => ?_)
                        have := V217 15
                        have := V217 16
                        have := V217 17
                        have := V217 19
                        have := V217 22
                        have := V217 24
                        have := A216 5 (by decide) rfl 44
                        have := A216 6 (by decide) rfl 44
                        have E218 : rE M0 M211 o0 0 2 := E205.same (fun k _ _ => V217 k) (fun k h1 h2 => A216 k (by omega) (by rcases (show k = 4 ∨ k = 5 by omega) with rfl | rfl <;> rfl))
                        have := A216 7 (by decide) rfl ((880 + ra M0 o0 6 44).toNat)
                        have := A216 10 (by decide) rfl ((880 + ra M0 o0 6 44).toNat)
                        have h219 : (880 + ra M0 o0 6 44).toNat = v34.toNatClampNeg := by have := mz_nat9 (i := v34) (by have := R200.1 15 _ _ rfl; have := R200.1 16 _ _ rfl; have := R200.1 19 _ _ rfl; have := E205.f yS; omega); have := R200.1 15 _ _ rfl; have := R200.1 16 _ _ rfl; have := R200.1 19 _ _ rfl; have := E205.f yS; omega
                        have : ra M211 o0 8 ((880 + ra M0 o0 6 44).toNat) = v199.toInt := (E215 _).trans (if_pos h219)
                        have K220 : rK M0 M211 o0 ((880 + ra M0 o0 6 44).toNat) := K206.st A216 E215 (by have := mz_nat9 (i := v34) (by have := R200.1 15 _ _ rfl; have := R200.1 16 _ _ rfl; have := R200.1 19 _ _ rfl; have := E205.f yS; omega); have := R200.1 15 _ _ rfl; have := R200.1 16 _ _ rfl; have := R200.1 19 _ _ rfl; have := E205.f yS; omega)
                        have K221 : nN M211 o0 := K207.same (sA_a A216 (by decide)) (sF_a V217)
                        refine mv_aload_n d_TrustDeskModel_readRule_251 rfl rfl ?_
                        refine mv_bipush (v := 59) d_TrustDeskModel_readRule_252 (by decide) ?_
                        obtain ⟨_, b228, -⟩ := I212.1 _ _ t203
                        have : (59 : Int32).toInt = 59 := by decide
                        refine mv_callV (kc' := 0) (ks' := 0) (As := [.int 59]) (st9 := [.int 59, .ref o0]) d_TrustDeskModel_readRule_254 lV_TrustDeskModel_291 b228 rfl (tc_TrustDeskModel_wantSign_x (d := (d + 22)) (x9 := x9) (o0 := o0) (x1 := 59) t203 R214 E218.1 (by have := R214.1 15 _ _ rfl; have := R214.1 16 _ _ rfl; have := R214.1 19 _ _ rfl; have := E218.f yS; omega) I212.start) rfl (Nat.le_of_ble_eq_true rfl) (Nat.le_of_ble_eq_true rfl) (Nat.le_of_ble_eq_true rfl) (hst := rfl) (fun b222r M223 n224 b222 => ?_)
                        obtain ⟨T225, J226, rfl, R229, f230⟩ := b222
                        have I227 := I212.call J226 (tm_sub (by decide)) (Or.inl rfl)
                        have t231 := J226.up t203
                        have := (rv_c I212 J226 (I212.up h_o0) (k := 22) rfl)
                        have := (rv_c I212 J226 (I212.up h_o0) (k := 24) rfl)
                        have := ra_call I212 J226 (I212.up h_o0) (k := 5) rfl rfl rfl 44
                        have := ra_call I212 J226 (I212.up h_o0) (k := 6) rfl rfl rfl 44
                        have E232 : rE M0 M223 o0 0 3 := E218.trans f230 (by decide) (yR.2 5 _ _ rfl 44).1 (by decide) (by decide)
                        have := f230.w
                        have := f230.w2
                        have := ra_call I212 J226 (I212.up h_o0) (k := 7) rfl rfl rfl ((880 + ra M0 o0 6 44).toNat)
                        have := ra_call I212 J226 (I212.up h_o0) (k := 10) rfl rfl rfl ((880 + ra M0 o0 6 44).toNat)
                        have := ra_call I212 J226 (I212.up h_o0) (k := 8) rfl rfl rfl ((880 + ra M0 o0 6 44).toNat)
                        have K233 : rK M0 M223 o0 ((880 + ra M0 o0 6 44).toNat) := K220.same (sA_c I212 J226 (I212.up h_o0) (by decide))
                        have K234 : nN M223 o0 := K221.same (sA_c I212 J226 (I212.up h_o0) (by decide)) (sF_c I212 J226 (I212.up h_o0) (by decide))
                        have q235 := J226.keep t203 (by decide) (K213 _ 13 6 _ q208)
                        have t236 := J226.up t209
                        have q237 := J226.keep t203 (by decide) (K213 _ 13 8 _ q210)
                        have t238 := J226.up t204
                        refine mv_aload_n d_TrustDeskModel_readRule_257 rfl rfl ?_
                        obtain ⟨a240, q239, t_a240⟩ := tm_atR I227 t231 (k := 12) rfl
                        refine tr_getK q239 d_TrustDeskModel_readRule_258 f_TrustDeskModel_41_13 ?_
                        refine mv_iload_n d_TrustDeskModel_readRule_261 rfl rfl ?_
                        refine mv_aload_n d_TrustDeskModel_readRule_262 rfl rfl ?_
                        obtain ⟨a242, q241, t_a242⟩ := tm_atR I227 t231 (k := 5) rfl
                        refine tr_getK q241 d_TrustDeskModel_readRule_263 f_TrustDeskModel_20_13 ?_
                        refine mv_bipush (v := 44) d_TrustDeskModel_readRule_266 (by decide) ?_
                        refine tr_ialdR (o := o0) (k := 5) I227 q241 t_a242 (by decide) d_TrustDeskModel_readRule_268 (by unfold vp_in; decide) (fun v243 e244 => ?_)
                        have := R229.a (k := 5) rfl (44 : Int32).toNatClampNeg
                        have : v243.toInt = ra M223 o0 5 44 := e244
                        refine tr_iastR (k := 12) I227 R229 (I227.up h_o0) q239 t_a240 (by decide) (by decide) (fun lo hi h => by cases h; have := R229.1 15 _ _ rfl; have := R229.1 16 _ _ rfl; have := R229.1 19 _ _ rfl; have := E232.f yS; exact ⟨by show (0 : Int) ≤ v243.toInt; omega, by show v243.toInt ≤ (400 : Int); omega⟩) (Or.inl (by decide)) d_TrustDeskModel_readRule_269 (vp_in_iff.mpr (by have := R229.1 15 _ _ rfl; have := R229.1 16 _ _ rfl; have := R229.1 19 _ _ rfl; have := E232.f yS; omega)) (fun M245 I246 K247 R248 E249 A250 V251 => ?_)
                        have := V251 15
                        have := V251 16
                        have := V251 17
                        have := V251 19
                        have := V251 22
                        have := V251 24
                        have := A250 5 (by decide) rfl 44
                        have := A250 6 (by decide) rfl 44
                        have E252 : rE M0 M245 o0 0 3 := E232.same (fun k _ _ => V251 k) (fun k h1 h2 => A250 k (by omega) (by rcases (show k = 4 ∨ k = 5 by omega) with rfl | rfl <;> rfl))
                        have := A250 7 (by decide) rfl ((880 + ra M0 o0 6 44).toNat)
                        have := A250 10 (by decide) rfl ((880 + ra M0 o0 6 44).toNat)
                        have := A250 8 (by decide) rfl ((880 + ra M0 o0 6 44).toNat)
                        have h253 : (880 + ra M0 o0 6 44).toNat = v34.toNatClampNeg := by have := mz_nat9 (i := v34) (by have := R229.1 15 _ _ rfl; have := R229.1 16 _ _ rfl; have := R229.1 19 _ _ rfl; have := E232.f yS; omega); have := R229.1 15 _ _ rfl; have := R229.1 16 _ _ rfl; have := R229.1 19 _ _ rfl; have := E232.f yS; omega
                        have : ra M245 o0 12 ((880 + ra M0 o0 6 44).toNat) = v243.toInt := (E249 _).trans (if_pos h253)
                        have K254 : rK M0 M245 o0 ((880 + ra M0 o0 6 44).toNat) := K233.st A250 E249 (by have := mz_nat9 (i := v34) (by have := R229.1 15 _ _ rfl; have := R229.1 16 _ _ rfl; have := R229.1 19 _ _ rfl; have := E232.f yS; omega); have := R229.1 15 _ _ rfl; have := R229.1 16 _ _ rfl; have := R229.1 19 _ _ rfl; have := E232.f yS; omega)
                        have K255 : nN M245 o0 := K234.same (sA_a A250 (by decide)) (sF_a V251)
                        exact mv_vret d_TrustDeskModel_readRule_270 rfl ⟨_, I246, rfl, R248, (rW.of E252.1 (fun w9 => (by have := R248.1 15 _ _ rfl; have := R248.1 16 _ _ rfl; have := R248.1 19 _ _ rfl; have := E252.f yS; omega)) (fun w9 => rG.step yG yR E252 w9 K254 (by have := yR.2 6 _ _ rfl 44; omega) (by have := R248.1 15 _ _ rfl; have := R248.1 16 _ _ rfl; have := R248.1 19 _ _ rfl; have := E252.f yS; omega) (by have := R248.1 15 _ _ rfl; have := R248.1 16 _ _ rfl; have := R248.1 19 _ _ rfl; have := E252.f yS; omega) (fun h9 => by exfalso; have := R248.1 15 _ _ rfl; have := R248.1 16 _ _ rfl; have := R248.1 19 _ _ rfl; have := E252.f yS; omega) (fun h9 => (by have := R248.1 15 _ _ rfl; have := R248.1 16 _ _ rfl; have := R248.1 19 _ _ rfl; have := E252.f yS; omega)) (by have := R248.1 15 _ _ rfl; have := R248.1 16 _ _ rfl; have := R248.1 19 _ _ rfl; have := E252.f yS; omega) K255)), (rO.of E252 K254 (by have := yR.2 6 _ _ rfl 44; omega)), (by have := R248.1 15 _ _ rfl; have := R248.1 16 _ _ rfl; have := R248.1 19 _ _ rfl; have := E252.f yS; omega), (by have := R248.1 15 _ _ rfl; have := R248.1 16 _ _ rfl; have := R248.1 19 _ _ rfl; have := E252.f yS; omega)⟩
                    · refine mv_sipush (v := 720) d_TrustDeskModel_readRule_229 (by decide) ?_
                      refine mv_goto (tgt := 247) d_TrustDeskModel_readRule_232 (by decide) ?_
                      obtain ⟨_, b262, -⟩ := I32.1 _ _ t42
                      have : (1 : Int32).toInt = 1 := by decide
                      have : (720 : Int32).toInt = 720 := by decide
                      refine mv_callV (kc' := 0) (ks' := 0) (As := [.int 1, .int 720]) (st9 := [.int 720, .int 1, .ref o0, .int v34, .ref a122]) d_TrustDeskModel_readRule_247 lV_TrustDeskModel_317 b262 rfl (tc_TrustDeskModel_number_x (d := (d + 22)) (x9 := x9) (o0 := o0) (x1 := 1) (x2 := 720) t42 R35 E43.1 (by have := R35.1 15 _ _ rfl; have := R35.1 16 _ _ rfl; have := R35.1 19 _ _ rfl; have := E43.f yS; omega) I32.start) rfl (Nat.le_of_ble_eq_true rfl) (Nat.le_of_ble_eq_true rfl) (Nat.le_of_ble_eq_true rfl) (hst := rfl) (fun b256r M257 n258 b256 => ?_)
                      obtain ⟨T259, J260, v263, rfl, R264, f265, f266⟩ := b256
                      have I261 := I32.call J260 (tm_sub (by decide)) (Or.inl rfl)
                      have t267 := J260.up t42
                      have t268 := J260.up t_a122
                      have := (rv_c I32 J260 (I32.up h_o0) (k := 22) rfl)
                      have := (rv_c I32 J260 (I32.up h_o0) (k := 24) rfl)
                      have := ra_call I32 J260 (I32.up h_o0) (k := 5) rfl rfl rfl 44
                      have := ra_call I32 J260 (I32.up h_o0) (k := 6) rfl rfl rfl 44
                      have E269 : rE M0 M257 o0 0 2 := E43.trans f265 (by decide) (yR.2 5 _ _ rfl 44).1 (by decide) (by decide)
                      have := f265.w
                      have := f265.w2
                      have := ra_call I32 J260 (I32.up h_o0) (k := 7) rfl rfl rfl ((880 + ra M0 o0 6 44).toNat)
                      have := ra_call I32 J260 (I32.up h_o0) (k := 10) rfl rfl rfl ((880 + ra M0 o0 6 44).toNat)
                      have K270 : rK M0 M257 o0 ((880 + ra M0 o0 6 44).toNat) := K45.same (sA_c I32 J260 (I32.up h_o0) (by decide))
                      have K271 : nN M257 o0 := K46.same (sA_c I32 J260 (I32.up h_o0) (by decide)) (sF_c I32 J260 (I32.up h_o0) (by decide))
                      have q272 := J260.keep t42 (by decide) q47
                      have t273 := J260.up t48
                      have q274 := J260.keep t42 (by decide) q121
                      refine tr_iastR (k := 8) I261 R264 (I261.up h_o0) q274 t268 (by decide) (by decide) (fun lo hi h => by cases h; have := R264.1 15 _ _ rfl; have := R264.1 16 _ _ rfl; have := R264.1 19 _ _ rfl; have := E269.f yS; exact ⟨by show ((-1) : Int) ≤ v263.toInt; omega, by show v263.toInt ≤ (720 : Int); omega⟩) (Or.inl (by decide)) d_TrustDeskModel_readRule_250 (vp_in_iff.mpr (by have := R264.1 15 _ _ rfl; have := R264.1 16 _ _ rfl; have := R264.1 19 _ _ rfl; have := E269.f yS; omega)) (fun M275 I276 K277 R278 E279 A280 V281 => ?_)
                      have := V281 15
                      have := V281 16
                      have := V281 17
                      have := V281 19
                      have := V281 22
                      have := V281 24
                      have := A280 5 (by decide) rfl 44
                      have := A280 6 (by decide) rfl 44
                      have E282 : rE M0 M275 o0 0 2 := E269.same (fun k _ _ => V281 k) (fun k h1 h2 => A280 k (by omega) (by rcases (show k = 4 ∨ k = 5 by omega) with rfl | rfl <;> rfl))
                      have := A280 7 (by decide) rfl ((880 + ra M0 o0 6 44).toNat)
                      have := A280 10 (by decide) rfl ((880 + ra M0 o0 6 44).toNat)
                      have h283 : (880 + ra M0 o0 6 44).toNat = v34.toNatClampNeg := by have := mz_nat9 (i := v34) (by have := R264.1 15 _ _ rfl; have := R264.1 16 _ _ rfl; have := R264.1 19 _ _ rfl; have := E269.f yS; omega); have := R264.1 15 _ _ rfl; have := R264.1 16 _ _ rfl; have := R264.1 19 _ _ rfl; have := E269.f yS; omega
                      have : ra M275 o0 8 ((880 + ra M0 o0 6 44).toNat) = v263.toInt := (E279 _).trans (if_pos h283)
                      have K284 : rK M0 M275 o0 ((880 + ra M0 o0 6 44).toNat) := K270.st A280 E279 (by have := mz_nat9 (i := v34) (by have := R264.1 15 _ _ rfl; have := R264.1 16 _ _ rfl; have := R264.1 19 _ _ rfl; have := E269.f yS; omega); have := R264.1 15 _ _ rfl; have := R264.1 16 _ _ rfl; have := R264.1 19 _ _ rfl; have := E269.f yS; omega)
                      have K285 : nN M275 o0 := K271.same (sA_a A280 (by decide)) (sF_a V281)
                      refine mv_aload_n d_TrustDeskModel_readRule_251 rfl rfl ?_
                      refine mv_bipush (v := 59) d_TrustDeskModel_readRule_252 (by decide) ?_
                      obtain ⟨_, b292, -⟩ := I276.1 _ _ t267
                      have : (59 : Int32).toInt = 59 := by decide
                      refine mv_callV (kc' := 0) (ks' := 0) (As := [.int 59]) (st9 := [.int 59, .ref o0]) d_TrustDeskModel_readRule_254 lV_TrustDeskModel_291 b292 rfl (tc_TrustDeskModel_wantSign_x (d := (d + 22)) (x9 := x9) (o0 := o0) (x1 := 59) t267 R278 E282.1 (by have := R278.1 15 _ _ rfl; have := R278.1 16 _ _ rfl; have := R278.1 19 _ _ rfl; have := E282.f yS; omega) I276.start) rfl (Nat.le_of_ble_eq_true rfl) (Nat.le_of_ble_eq_true rfl) (Nat.le_of_ble_eq_true rfl) (hst := rfl) (fun b286r M287 n288 b286 => ?_)
                      obtain ⟨T289, J290, rfl, R293, f294⟩ := b286
                      have I291 := I276.call J290 (tm_sub (by decide)) (Or.inl rfl)
                      have t295 := J290.up t267
                      have := (rv_c I276 J290 (I276.up h_o0) (k := 22) rfl)
                      have := (rv_c I276 J290 (I276.up h_o0) (k := 24) rfl)
                      have := ra_call I276 J290 (I276.up h_o0) (k := 5) rfl rfl rfl 44
                      have := ra_call I276 J290 (I276.up h_o0) (k := 6) rfl rfl rfl 44
                      have E296 : rE M0 M287 o0 0 3 := E282.trans f294 (by decide) (yR.2 5 _ _ rfl 44).1 (by decide) (by decide)
                      have := f294.w
                      have := f294.w2
                      have := ra_call I276 J290 (I276.up h_o0) (k := 7) rfl rfl rfl ((880 + ra M0 o0 6 44).toNat)
                      have := ra_call I276 J290 (I276.up h_o0) (k := 10) rfl rfl rfl ((880 + ra M0 o0 6 44).toNat)
                      have := ra_call I276 J290 (I276.up h_o0) (k := 8) rfl rfl rfl ((880 + ra M0 o0 6 44).toNat)
                      have K297 : rK M0 M287 o0 ((880 + ra M0 o0 6 44).toNat) := K284.same (sA_c I276 J290 (I276.up h_o0) (by decide))
                      have K298 : nN M287 o0 := K285.same (sA_c I276 J290 (I276.up h_o0) (by decide)) (sF_c I276 J290 (I276.up h_o0) (by decide))
                      have q299 := J290.keep t267 (by decide) (K277 _ 13 6 _ q272)
                      have t300 := J290.up t273
                      have q301 := J290.keep t267 (by decide) (K277 _ 13 8 _ q274)
                      have t302 := J290.up t268
                      refine mv_aload_n d_TrustDeskModel_readRule_257 rfl rfl ?_
                      obtain ⟨a304, q303, t_a304⟩ := tm_atR I291 t295 (k := 12) rfl
                      refine tr_getK q303 d_TrustDeskModel_readRule_258 f_TrustDeskModel_41_13 ?_
                      refine mv_iload_n d_TrustDeskModel_readRule_261 rfl rfl ?_
                      refine mv_aload_n d_TrustDeskModel_readRule_262 rfl rfl ?_
                      obtain ⟨a306, q305, t_a306⟩ := tm_atR I291 t295 (k := 5) rfl
                      refine tr_getK q305 d_TrustDeskModel_readRule_263 f_TrustDeskModel_20_13 ?_
                      refine mv_bipush (v := 44) d_TrustDeskModel_readRule_266 (by decide) ?_
                      refine tr_ialdR (o := o0) (k := 5) I291 q305 t_a306 (by decide) d_TrustDeskModel_readRule_268 (by unfold vp_in; decide) (fun v307 e308 => ?_)
                      have := R293.a (k := 5) rfl (44 : Int32).toNatClampNeg
                      have : v307.toInt = ra M287 o0 5 44 := e308
                      refine tr_iastR (k := 12) I291 R293 (I291.up h_o0) q303 t_a304 (by decide) (by decide) (fun lo hi h => by cases h; have := R293.1 15 _ _ rfl; have := R293.1 16 _ _ rfl; have := R293.1 19 _ _ rfl; have := E296.f yS; exact ⟨by show (0 : Int) ≤ v307.toInt; omega, by show v307.toInt ≤ (400 : Int); omega⟩) (Or.inl (by decide)) d_TrustDeskModel_readRule_269 (vp_in_iff.mpr (by have := R293.1 15 _ _ rfl; have := R293.1 16 _ _ rfl; have := R293.1 19 _ _ rfl; have := E296.f yS; omega)) (fun M309 I310 K311 R312 E313 A314 V315 => ?_)
                      have := V315 15
                      have := V315 16
                      have := V315 17
                      have := V315 19
                      have := V315 22
                      have := V315 24
                      have := A314 5 (by decide) rfl 44
                      have := A314 6 (by decide) rfl 44
                      have E316 : rE M0 M309 o0 0 3 := E296.same (fun k _ _ => V315 k) (fun k h1 h2 => A314 k (by omega) (by rcases (show k = 4 ∨ k = 5 by omega) with rfl | rfl <;> rfl))
                      have := A314 7 (by decide) rfl ((880 + ra M0 o0 6 44).toNat)
                      have := A314 10 (by decide) rfl ((880 + ra M0 o0 6 44).toNat)
                      have := A314 8 (by decide) rfl ((880 + ra M0 o0 6 44).toNat)
                      have h317 : (880 + ra M0 o0 6 44).toNat = v34.toNatClampNeg := by have := mz_nat9 (i := v34) (by have := R293.1 15 _ _ rfl; have := R293.1 16 _ _ rfl; have := R293.1 19 _ _ rfl; have := E296.f yS; omega); have := R293.1 15 _ _ rfl; have := R293.1 16 _ _ rfl; have := R293.1 19 _ _ rfl; have := E296.f yS; omega
                      have : ra M309 o0 12 ((880 + ra M0 o0 6 44).toNat) = v307.toInt := (E313 _).trans (if_pos h317)
                      have K318 : rK M0 M309 o0 ((880 + ra M0 o0 6 44).toNat) := K297.st A314 E313 (by have := mz_nat9 (i := v34) (by have := R293.1 15 _ _ rfl; have := R293.1 16 _ _ rfl; have := R293.1 19 _ _ rfl; have := E296.f yS; omega); have := R293.1 15 _ _ rfl; have := R293.1 16 _ _ rfl; have := R293.1 19 _ _ rfl; have := E296.f yS; omega)
                      have K319 : nN M309 o0 := K298.same (sA_a A314 (by decide)) (sF_a V315)
                      exact mv_vret d_TrustDeskModel_readRule_270 rfl ⟨_, I310, rfl, R312, (rW.of E316.1 (fun w9 => (by have := R312.1 15 _ _ rfl; have := R312.1 16 _ _ rfl; have := R312.1 19 _ _ rfl; have := E316.f yS; omega)) (fun w9 => rG.step yG yR E316 w9 K318 (by have := yR.2 6 _ _ rfl 44; omega) (by have := R312.1 15 _ _ rfl; have := R312.1 16 _ _ rfl; have := R312.1 19 _ _ rfl; have := E316.f yS; omega) (by have := R312.1 15 _ _ rfl; have := R312.1 16 _ _ rfl; have := R312.1 19 _ _ rfl; have := E316.f yS; omega) (fun h9 => by exfalso; have := R312.1 15 _ _ rfl; have := R312.1 16 _ _ rfl; have := R312.1 19 _ _ rfl; have := E316.f yS; omega) (fun h9 => (by have := R312.1 15 _ _ rfl; have := R312.1 16 _ _ rfl; have := R312.1 19 _ _ rfl; have := E316.f yS; omega)) (by have := R312.1 15 _ _ rfl; have := R312.1 16 _ _ rfl; have := R312.1 19 _ _ rfl; have := E316.f yS; omega) K319)), (rO.of E316 K318 (by have := yR.2 6 _ _ rfl 44; omega)), (by have := R312.1 15 _ _ rfl; have := R312.1 16 _ _ rfl; have := R312.1 19 _ _ rfl; have := E316.f yS; omega), (by have := R312.1 15 _ _ rfl; have := R312.1 16 _ _ rfl; have := R312.1 19 _ _ rfl; have := E316.f yS; omega)⟩
                  · refine mv_sipush (v := 360) d_TrustDeskModel_readRule_218 (by decide) ?_
                    refine mv_goto (tgt := 247) d_TrustDeskModel_readRule_221 (by decide) ?_
                    obtain ⟨_, b326, -⟩ := I32.1 _ _ t42
                    have : (1 : Int32).toInt = 1 := by decide
                    have : (360 : Int32).toInt = 360 := by decide
                    refine mv_callV (kc' := 0) (ks' := 0) (As := [.int 1, .int 360]) (st9 := [.int 360, .int 1, .ref o0, .int v34, .ref a122]) d_TrustDeskModel_readRule_247 lV_TrustDeskModel_317 b326 rfl (tc_TrustDeskModel_number_x (d := (d + 22)) (x9 := x9) (o0 := o0) (x1 := 1) (x2 := 360) t42 R35 E43.1 (by have := R35.1 15 _ _ rfl; have := R35.1 16 _ _ rfl; have := R35.1 19 _ _ rfl; have := E43.f yS; omega) I32.start) rfl (Nat.le_of_ble_eq_true rfl) (Nat.le_of_ble_eq_true rfl) (Nat.le_of_ble_eq_true rfl) (hst := rfl) (fun b320r M321 n322 b320 => ?_)
                    obtain ⟨T323, J324, v327, rfl, R328, f329, f330⟩ := b320
                    have I325 := I32.call J324 (tm_sub (by decide)) (Or.inl rfl)
                    have t331 := J324.up t42
                    have t332 := J324.up t_a122
                    have := (rv_c I32 J324 (I32.up h_o0) (k := 22) rfl)
                    have := (rv_c I32 J324 (I32.up h_o0) (k := 24) rfl)
                    have := ra_call I32 J324 (I32.up h_o0) (k := 5) rfl rfl rfl 44
                    have := ra_call I32 J324 (I32.up h_o0) (k := 6) rfl rfl rfl 44
                    have E333 : rE M0 M321 o0 0 2 := E43.trans f329 (by decide) (yR.2 5 _ _ rfl 44).1 (by decide) (by decide)
                    have := f329.w
                    have := f329.w2
                    have := ra_call I32 J324 (I32.up h_o0) (k := 7) rfl rfl rfl ((880 + ra M0 o0 6 44).toNat)
                    have := ra_call I32 J324 (I32.up h_o0) (k := 10) rfl rfl rfl ((880 + ra M0 o0 6 44).toNat)
                    have K334 : rK M0 M321 o0 ((880 + ra M0 o0 6 44).toNat) := K45.same (sA_c I32 J324 (I32.up h_o0) (by decide))
                    have K335 : nN M321 o0 := K46.same (sA_c I32 J324 (I32.up h_o0) (by decide)) (sF_c I32 J324 (I32.up h_o0) (by decide))
                    have q336 := J324.keep t42 (by decide) q47
                    have t337 := J324.up t48
                    have q338 := J324.keep t42 (by decide) q121
                    refine tr_iastR (k := 8) I325 R328 (I325.up h_o0) q338 t332 (by decide) (by decide) (fun lo hi h => by cases h; have := R328.1 15 _ _ rfl; have := R328.1 16 _ _ rfl; have := R328.1 19 _ _ rfl; have := E333.f yS; exact ⟨by show ((-1) : Int) ≤ v327.toInt; omega, by show v327.toInt ≤ (720 : Int); omega⟩) (Or.inl (by decide)) d_TrustDeskModel_readRule_250 (vp_in_iff.mpr (by have := R328.1 15 _ _ rfl; have := R328.1 16 _ _ rfl; have := R328.1 19 _ _ rfl; have := E333.f yS; omega)) (fun M339 I340 K341 R342 E343 A344 V345 => ?_)
                    have := V345 15
                    have := V345 16
                    have := V345 17
                    have := V345 19
                    have := V345 22
                    have := V345 24
                    have := A344 5 (by decide) rfl 44
                    have := A344 6 (by decide) rfl 44
                    have E346 : rE M0 M339 o0 0 2 := E333.same (fun k _ _ => V345 k) (fun k h1 h2 => A344 k (by omega) (by rcases (show k = 4 ∨ k = 5 by omega) with rfl | rfl <;> rfl))
                    have := A344 7 (by decide) rfl ((880 + ra M0 o0 6 44).toNat)
                    have := A344 10 (by decide) rfl ((880 + ra M0 o0 6 44).toNat)
                    have h347 : (880 + ra M0 o0 6 44).toNat = v34.toNatClampNeg := by have := mz_nat9 (i := v34) (by have := R328.1 15 _ _ rfl; have := R328.1 16 _ _ rfl; have := R328.1 19 _ _ rfl; have := E333.f yS; omega); have := R328.1 15 _ _ rfl; have := R328.1 16 _ _ rfl; have := R328.1 19 _ _ rfl; have := E333.f yS; omega
                    have : ra M339 o0 8 ((880 + ra M0 o0 6 44).toNat) = v327.toInt := (E343 _).trans (if_pos h347)
                    have K348 : rK M0 M339 o0 ((880 + ra M0 o0 6 44).toNat) := K334.st A344 E343 (by have := mz_nat9 (i := v34) (by have := R328.1 15 _ _ rfl; have := R328.1 16 _ _ rfl; have := R328.1 19 _ _ rfl; have := E333.f yS; omega); have := R328.1 15 _ _ rfl; have := R328.1 16 _ _ rfl; have := R328.1 19 _ _ rfl; have := E333.f yS; omega)
                    have K349 : nN M339 o0 := K335.same (sA_a A344 (by decide)) (sF_a V345)
                    refine mv_aload_n d_TrustDeskModel_readRule_251 rfl rfl ?_
                    refine mv_bipush (v := 59) d_TrustDeskModel_readRule_252 (by decide) ?_
                    obtain ⟨_, b356, -⟩ := I340.1 _ _ t331
                    have : (59 : Int32).toInt = 59 := by decide
                    refine mv_callV (kc' := 0) (ks' := 0) (As := [.int 59]) (st9 := [.int 59, .ref o0]) d_TrustDeskModel_readRule_254 lV_TrustDeskModel_291 b356 rfl (tc_TrustDeskModel_wantSign_x (d := (d + 22)) (x9 := x9) (o0 := o0) (x1 := 59) t331 R342 E346.1 (by have := R342.1 15 _ _ rfl; have := R342.1 16 _ _ rfl; have := R342.1 19 _ _ rfl; have := E346.f yS; omega) I340.start) rfl (Nat.le_of_ble_eq_true rfl) (Nat.le_of_ble_eq_true rfl) (Nat.le_of_ble_eq_true rfl) (hst := rfl) (fun b350r M351 n352 b350 => ?_)
                    obtain ⟨T353, J354, rfl, R357, f358⟩ := b350
                    have I355 := I340.call J354 (tm_sub (by decide)) (Or.inl rfl)
                    have t359 := J354.up t331
                    have := (rv_c I340 J354 (I340.up h_o0) (k := 22) rfl)
                    have := (rv_c I340 J354 (I340.up h_o0) (k := 24) rfl)
                    have := ra_call I340 J354 (I340.up h_o0) (k := 5) rfl rfl rfl 44
                    have := ra_call I340 J354 (I340.up h_o0) (k := 6) rfl rfl rfl 44
                    have E360 : rE M0 M351 o0 0 3 := E346.trans f358 (by decide) (yR.2 5 _ _ rfl 44).1 (by decide) (by decide)
                    have := f358.w
                    have := f358.w2
                    have := ra_call I340 J354 (I340.up h_o0) (k := 7) rfl rfl rfl ((880 + ra M0 o0 6 44).toNat)
                    have := ra_call I340 J354 (I340.up h_o0) (k := 10) rfl rfl rfl ((880 + ra M0 o0 6 44).toNat)
                    have := ra_call I340 J354 (I340.up h_o0) (k := 8) rfl rfl rfl ((880 + ra M0 o0 6 44).toNat)
                    have K361 : rK M0 M351 o0 ((880 + ra M0 o0 6 44).toNat) := K348.same (sA_c I340 J354 (I340.up h_o0) (by decide))
                    have K362 : nN M351 o0 := K349.same (sA_c I340 J354 (I340.up h_o0) (by decide)) (sF_c I340 J354 (I340.up h_o0) (by decide))
                    have q363 := J354.keep t331 (by decide) (K341 _ 13 6 _ q336)
                    have t364 := J354.up t337
                    have q365 := J354.keep t331 (by decide) (K341 _ 13 8 _ q338)
                    have t366 := J354.up t332
                    refine mv_aload_n d_TrustDeskModel_readRule_257 rfl rfl ?_
                    obtain ⟨a368, q367, t_a368⟩ := tm_atR I355 t359 (k := 12) rfl
                    refine tr_getK q367 d_TrustDeskModel_readRule_258 f_TrustDeskModel_41_13 ?_
                    refine mv_iload_n d_TrustDeskModel_readRule_261 rfl rfl ?_
                    refine mv_aload_n d_TrustDeskModel_readRule_262 rfl rfl ?_
                    obtain ⟨a370, q369, t_a370⟩ := tm_atR I355 t359 (k := 5) rfl
                    refine tr_getK q369 d_TrustDeskModel_readRule_263 f_TrustDeskModel_20_13 ?_
                    refine mv_bipush (v := 44) d_TrustDeskModel_readRule_266 (by decide) ?_
                    refine tr_ialdR (o := o0) (k := 5) I355 q369 t_a370 (by decide) d_TrustDeskModel_readRule_268 (by unfold vp_in; decide) (fun v371 e372 => ?_)
                    have := R357.a (k := 5) rfl (44 : Int32).toNatClampNeg
                    have : v371.toInt = ra M351 o0 5 44 := e372
                    refine tr_iastR (k := 12) I355 R357 (I355.up h_o0) q367 t_a368 (by decide) (by decide) (fun lo hi h => by cases h; have := R357.1 15 _ _ rfl; have := R357.1 16 _ _ rfl; have := R357.1 19 _ _ rfl; have := E360.f yS; exact ⟨by show (0 : Int) ≤ v371.toInt; omega, by show v371.toInt ≤ (400 : Int); omega⟩) (Or.inl (by decide)) d_TrustDeskModel_readRule_269 (vp_in_iff.mpr (by have := R357.1 15 _ _ rfl; have := R357.1 16 _ _ rfl; have := R357.1 19 _ _ rfl; have := E360.f yS; omega)) (fun M373 I374 K375 R376 E377 A378 V379 => ?_)
                    have := V379 15
                    have := V379 16
                    have := V379 17
                    have := V379 19
                    have := V379 22
                    have := V379 24
                    have := A378 5 (by decide) rfl 44
                    have := A378 6 (by decide) rfl 44
                    have E380 : rE M0 M373 o0 0 3 := E360.same (fun k _ _ => V379 k) (fun k h1 h2 => A378 k (by omega) (by rcases (show k = 4 ∨ k = 5 by omega) with rfl | rfl <;> rfl))
                    have := A378 7 (by decide) rfl ((880 + ra M0 o0 6 44).toNat)
                    have := A378 10 (by decide) rfl ((880 + ra M0 o0 6 44).toNat)
                    have := A378 8 (by decide) rfl ((880 + ra M0 o0 6 44).toNat)
                    have h381 : (880 + ra M0 o0 6 44).toNat = v34.toNatClampNeg := by have := mz_nat9 (i := v34) (by have := R357.1 15 _ _ rfl; have := R357.1 16 _ _ rfl; have := R357.1 19 _ _ rfl; have := E360.f yS; omega); have := R357.1 15 _ _ rfl; have := R357.1 16 _ _ rfl; have := R357.1 19 _ _ rfl; have := E360.f yS; omega
                    have : ra M373 o0 12 ((880 + ra M0 o0 6 44).toNat) = v371.toInt := (E377 _).trans (if_pos h381)
                    have K382 : rK M0 M373 o0 ((880 + ra M0 o0 6 44).toNat) := K361.st A378 E377 (by have := mz_nat9 (i := v34) (by have := R357.1 15 _ _ rfl; have := R357.1 16 _ _ rfl; have := R357.1 19 _ _ rfl; have := E360.f yS; omega); have := R357.1 15 _ _ rfl; have := R357.1 16 _ _ rfl; have := R357.1 19 _ _ rfl; have := E360.f yS; omega)
                    have K383 : nN M373 o0 := K362.same (sA_a A378 (by decide)) (sF_a V379)
                    exact mv_vret d_TrustDeskModel_readRule_270 rfl ⟨_, I374, rfl, R376, (rW.of E380.1 (fun w9 => (by have := R376.1 15 _ _ rfl; have := R376.1 16 _ _ rfl; have := R376.1 19 _ _ rfl; have := E380.f yS; omega)) (fun w9 => rG.step yG yR E380 w9 K382 (by have := yR.2 6 _ _ rfl 44; omega) (by have := R376.1 15 _ _ rfl; have := R376.1 16 _ _ rfl; have := R376.1 19 _ _ rfl; have := E380.f yS; omega) (by have := R376.1 15 _ _ rfl; have := R376.1 16 _ _ rfl; have := R376.1 19 _ _ rfl; have := E380.f yS; omega) (fun h9 => by exfalso; have := R376.1 15 _ _ rfl; have := R376.1 16 _ _ rfl; have := R376.1 19 _ _ rfl; have := E380.f yS; omega) (fun h9 => (by have := R376.1 15 _ _ rfl; have := R376.1 16 _ _ rfl; have := R376.1 19 _ _ rfl; have := E380.f yS; omega)) (by have := R376.1 15 _ _ rfl; have := R376.1 16 _ _ rfl; have := R376.1 19 _ _ rfl; have := E380.f yS; omega) K383)), (rO.of E380 K382 (by have := yR.2 6 _ _ rfl 44; omega)), (by have := R376.1 15 _ _ rfl; have := R376.1 16 _ _ rfl; have := R376.1 19 _ _ rfl; have := E380.f yS; omega), (by have := R376.1 15 _ _ rfl; have := R376.1 16 _ _ rfl; have := R376.1 19 _ _ rfl; have := E380.f yS; omega)⟩
                · refine mv_bipush (v := 8) d_TrustDeskModel_readRule_208 (by decide) ?_
                  refine mv_goto (tgt := 247) d_TrustDeskModel_readRule_210 (by decide) ?_
                  obtain ⟨_, b390, -⟩ := I32.1 _ _ t42
                  have : (1 : Int32).toInt = 1 := by decide
                  have : (8 : Int32).toInt = 8 := by decide
                  refine mv_callV (kc' := 0) (ks' := 0) (As := [.int 1, .int 8]) (st9 := [.int 8, .int 1, .ref o0, .int v34, .ref a122]) d_TrustDeskModel_readRule_247 lV_TrustDeskModel_317 b390 rfl (tc_TrustDeskModel_number_x (d := (d + 22)) (x9 := x9) (o0 := o0) (x1 := 1) (x2 := 8) t42 R35 E43.1 (by have := R35.1 15 _ _ rfl; have := R35.1 16 _ _ rfl; have := R35.1 19 _ _ rfl; have := E43.f yS; omega) I32.start) rfl (Nat.le_of_ble_eq_true rfl) (Nat.le_of_ble_eq_true rfl) (Nat.le_of_ble_eq_true rfl) (hst := rfl) (fun b384r M385 n386 b384 => ?_)
                  obtain ⟨T387, J388, v391, rfl, R392, f393, f394⟩ := b384
                  have I389 := I32.call J388 (tm_sub (by decide)) (Or.inl rfl)
                  have t395 := J388.up t42
                  have t396 := J388.up t_a122
                  have := (rv_c I32 J388 (I32.up h_o0) (k := 22) rfl)
                  have := (rv_c I32 J388 (I32.up h_o0) (k := 24) rfl)
                  have := ra_call I32 J388 (I32.up h_o0) (k := 5) rfl rfl rfl 44
                  have := ra_call I32 J388 (I32.up h_o0) (k := 6) rfl rfl rfl 44
                  have E397 : rE M0 M385 o0 0 2 := E43.trans f393 (by decide) (yR.2 5 _ _ rfl 44).1 (by decide) (by decide)
                  have := f393.w
                  have := f393.w2
                  have := ra_call I32 J388 (I32.up h_o0) (k := 7) rfl rfl rfl ((880 + ra M0 o0 6 44).toNat)
                  have := ra_call I32 J388 (I32.up h_o0) (k := 10) rfl rfl rfl ((880 + ra M0 o0 6 44).toNat)
                  have K398 : rK M0 M385 o0 ((880 + ra M0 o0 6 44).toNat) := K45.same (sA_c I32 J388 (I32.up h_o0) (by decide))
                  have K399 : nN M385 o0 := K46.same (sA_c I32 J388 (I32.up h_o0) (by decide)) (sF_c I32 J388 (I32.up h_o0) (by decide))
                  have q400 := J388.keep t42 (by decide) q47
                  have t401 := J388.up t48
                  have q402 := J388.keep t42 (by decide) q121
                  refine tr_iastR (k := 8) I389 R392 (I389.up h_o0) q402 t396 (by decide) (by decide) (fun lo hi h => by cases h; have := R392.1 15 _ _ rfl; have := R392.1 16 _ _ rfl; have := R392.1 19 _ _ rfl; have := E397.f yS; exact ⟨by show ((-1) : Int) ≤ v391.toInt; omega, by show v391.toInt ≤ (720 : Int); omega⟩) (Or.inl (by decide)) d_TrustDeskModel_readRule_250 (vp_in_iff.mpr (by have := R392.1 15 _ _ rfl; have := R392.1 16 _ _ rfl; have := R392.1 19 _ _ rfl; have := E397.f yS; omega)) (fun M403 I404 K405 R406 E407 A408 V409 => ?_)
                  have := V409 15
                  have := V409 16
                  have := V409 17
                  have := V409 19
                  have := V409 22
                  have := V409 24
                  have := A408 5 (by decide) rfl 44
                  have := A408 6 (by decide) rfl 44
                  have E410 : rE M0 M403 o0 0 2 := E397.same (fun k _ _ => V409 k) (fun k h1 h2 => A408 k (by omega) (by rcases (show k = 4 ∨ k = 5 by omega) with rfl | rfl <;> rfl))
                  have := A408 7 (by decide) rfl ((880 + ra M0 o0 6 44).toNat)
                  have := A408 10 (by decide) rfl ((880 + ra M0 o0 6 44).toNat)
                  have h411 : (880 + ra M0 o0 6 44).toNat = v34.toNatClampNeg := by have := mz_nat9 (i := v34) (by have := R392.1 15 _ _ rfl; have := R392.1 16 _ _ rfl; have := R392.1 19 _ _ rfl; have := E397.f yS; omega); have := R392.1 15 _ _ rfl; have := R392.1 16 _ _ rfl; have := R392.1 19 _ _ rfl; have := E397.f yS; omega
                  have : ra M403 o0 8 ((880 + ra M0 o0 6 44).toNat) = v391.toInt := (E407 _).trans (if_pos h411)
                  have K412 : rK M0 M403 o0 ((880 + ra M0 o0 6 44).toNat) := K398.st A408 E407 (by have := mz_nat9 (i := v34) (by have := R392.1 15 _ _ rfl; have := R392.1 16 _ _ rfl; have := R392.1 19 _ _ rfl; have := E397.f yS; omega); have := R392.1 15 _ _ rfl; have := R392.1 16 _ _ rfl; have := R392.1 19 _ _ rfl; have := E397.f yS; omega)
                  have K413 : nN M403 o0 := K399.same (sA_a A408 (by decide)) (sF_a V409)
                  refine mv_aload_n d_TrustDeskModel_readRule_251 rfl rfl ?_
                  refine mv_bipush (v := 59) d_TrustDeskModel_readRule_252 (by decide) ?_
                  obtain ⟨_, b420, -⟩ := I404.1 _ _ t395
                  have : (59 : Int32).toInt = 59 := by decide
                  refine mv_callV (kc' := 0) (ks' := 0) (As := [.int 59]) (st9 := [.int 59, .ref o0]) d_TrustDeskModel_readRule_254 lV_TrustDeskModel_291 b420 rfl (tc_TrustDeskModel_wantSign_x (d := (d + 22)) (x9 := x9) (o0 := o0) (x1 := 59) t395 R406 E410.1 (by have := R406.1 15 _ _ rfl; have := R406.1 16 _ _ rfl; have := R406.1 19 _ _ rfl; have := E410.f yS; omega) I404.start) rfl (Nat.le_of_ble_eq_true rfl) (Nat.le_of_ble_eq_true rfl) (Nat.le_of_ble_eq_true rfl) (hst := rfl) (fun b414r M415 n416 b414 => ?_)
                  obtain ⟨T417, J418, rfl, R421, f422⟩ := b414
                  have I419 := I404.call J418 (tm_sub (by decide)) (Or.inl rfl)
                  have t423 := J418.up t395
                  have := (rv_c I404 J418 (I404.up h_o0) (k := 22) rfl)
                  have := (rv_c I404 J418 (I404.up h_o0) (k := 24) rfl)
                  have := ra_call I404 J418 (I404.up h_o0) (k := 5) rfl rfl rfl 44
                  have := ra_call I404 J418 (I404.up h_o0) (k := 6) rfl rfl rfl 44
                  have E424 : rE M0 M415 o0 0 3 := E410.trans f422 (by decide) (yR.2 5 _ _ rfl 44).1 (by decide) (by decide)
                  have := f422.w
                  have := f422.w2
                  have := ra_call I404 J418 (I404.up h_o0) (k := 7) rfl rfl rfl ((880 + ra M0 o0 6 44).toNat)
                  have := ra_call I404 J418 (I404.up h_o0) (k := 10) rfl rfl rfl ((880 + ra M0 o0 6 44).toNat)
                  have := ra_call I404 J418 (I404.up h_o0) (k := 8) rfl rfl rfl ((880 + ra M0 o0 6 44).toNat)
                  have K425 : rK M0 M415 o0 ((880 + ra M0 o0 6 44).toNat) := K412.same (sA_c I404 J418 (I404.up h_o0) (by decide))
                  have K426 : nN M415 o0 := K413.same (sA_c I404 J418 (I404.up h_o0) (by decide)) (sF_c I404 J418 (I404.up h_o0) (by decide))
                  have q427 := J418.keep t395 (by decide) (K405 _ 13 6 _ q400)
                  have t428 := J418.up t401
                  have q429 := J418.keep t395 (by decide) (K405 _ 13 8 _ q402)
                  have t430 := J418.up t396
                  refine mv_aload_n d_TrustDeskModel_readRule_257 rfl rfl ?_
                  obtain ⟨a432, q431, t_a432⟩ := tm_atR I419 t423 (k := 12) rfl
                  refine tr_getK q431 d_TrustDeskModel_readRule_258 f_TrustDeskModel_41_13 ?_
                  refine mv_iload_n d_TrustDeskModel_readRule_261 rfl rfl ?_
                  refine mv_aload_n d_TrustDeskModel_readRule_262 rfl rfl ?_
                  obtain ⟨a434, q433, t_a434⟩ := tm_atR I419 t423 (k := 5) rfl
                  refine tr_getK q433 d_TrustDeskModel_readRule_263 f_TrustDeskModel_20_13 ?_
                  refine mv_bipush (v := 44) d_TrustDeskModel_readRule_266 (by decide) ?_
                  refine tr_ialdR (o := o0) (k := 5) I419 q433 t_a434 (by decide) d_TrustDeskModel_readRule_268 (by unfold vp_in; decide) (fun v435 e436 => ?_)
                  have := R421.a (k := 5) rfl (44 : Int32).toNatClampNeg
                  have : v435.toInt = ra M415 o0 5 44 := e436
                  refine tr_iastR (k := 12) I419 R421 (I419.up h_o0) q431 t_a432 (by decide) (by decide) (fun lo hi h => by cases h; have := R421.1 15 _ _ rfl; have := R421.1 16 _ _ rfl; have := R421.1 19 _ _ rfl; have := E424.f yS; exact ⟨by show (0 : Int) ≤ v435.toInt; omega, by show v435.toInt ≤ (400 : Int); omega⟩) (Or.inl (by decide)) d_TrustDeskModel_readRule_269 (vp_in_iff.mpr (by have := R421.1 15 _ _ rfl; have := R421.1 16 _ _ rfl; have := R421.1 19 _ _ rfl; have := E424.f yS; omega)) (fun M437 I438 K439 R440 E441 A442 V443 => ?_)
                  have := V443 15
                  have := V443 16
                  have := V443 17
                  have := V443 19
                  have := V443 22
                  have := V443 24
                  have := A442 5 (by decide) rfl 44
                  have := A442 6 (by decide) rfl 44
                  have E444 : rE M0 M437 o0 0 3 := E424.same (fun k _ _ => V443 k) (fun k h1 h2 => A442 k (by omega) (by rcases (show k = 4 ∨ k = 5 by omega) with rfl | rfl <;> rfl))
                  have := A442 7 (by decide) rfl ((880 + ra M0 o0 6 44).toNat)
                  have := A442 10 (by decide) rfl ((880 + ra M0 o0 6 44).toNat)
                  have := A442 8 (by decide) rfl ((880 + ra M0 o0 6 44).toNat)
                  have h445 : (880 + ra M0 o0 6 44).toNat = v34.toNatClampNeg := by have := mz_nat9 (i := v34) (by have := R421.1 15 _ _ rfl; have := R421.1 16 _ _ rfl; have := R421.1 19 _ _ rfl; have := E424.f yS; omega); have := R421.1 15 _ _ rfl; have := R421.1 16 _ _ rfl; have := R421.1 19 _ _ rfl; have := E424.f yS; omega
                  have : ra M437 o0 12 ((880 + ra M0 o0 6 44).toNat) = v435.toInt := (E441 _).trans (if_pos h445)
                  have K446 : rK M0 M437 o0 ((880 + ra M0 o0 6 44).toNat) := K425.st A442 E441 (by have := mz_nat9 (i := v34) (by have := R421.1 15 _ _ rfl; have := R421.1 16 _ _ rfl; have := R421.1 19 _ _ rfl; have := E424.f yS; omega); have := R421.1 15 _ _ rfl; have := R421.1 16 _ _ rfl; have := R421.1 19 _ _ rfl; have := E424.f yS; omega)
                  have K447 : nN M437 o0 := K426.same (sA_a A442 (by decide)) (sF_a V443)
                  exact mv_vret d_TrustDeskModel_readRule_270 rfl ⟨_, I438, rfl, R440, (rW.of E444.1 (fun w9 => (by have := R440.1 15 _ _ rfl; have := R440.1 16 _ _ rfl; have := R440.1 19 _ _ rfl; have := E444.f yS; omega)) (fun w9 => rG.step yG yR E444 w9 K446 (by have := yR.2 6 _ _ rfl 44; omega) (by have := R440.1 15 _ _ rfl; have := R440.1 16 _ _ rfl; have := R440.1 19 _ _ rfl; have := E444.f yS; omega) (by have := R440.1 15 _ _ rfl; have := R440.1 16 _ _ rfl; have := R440.1 19 _ _ rfl; have := E444.f yS; omega) (fun h9 => by exfalso; have := R440.1 15 _ _ rfl; have := R440.1 16 _ _ rfl; have := R440.1 19 _ _ rfl; have := E444.f yS; omega) (fun h9 => (by have := R440.1 15 _ _ rfl; have := R440.1 16 _ _ rfl; have := R440.1 19 _ _ rfl; have := E444.f yS; omega)) (by have := R440.1 15 _ _ rfl; have := R440.1 16 _ _ rfl; have := R440.1 19 _ _ rfl; have := E444.f yS; omega) K447)), (rO.of E444 K446 (by have := yR.2 6 _ _ rfl 44; omega)), (by have := R440.1 15 _ _ rfl; have := R440.1 16 _ _ rfl; have := R440.1 19 _ _ rfl; have := E444.f yS; omega), (by have := R440.1 15 _ _ rfl; have := R440.1 16 _ _ rfl; have := R440.1 19 _ _ rfl; have := E444.f yS; omega)⟩
              · refine mv_bipush (v := 50) d_TrustDeskModel_readRule_198 (by decide) ?_
                refine mv_goto (tgt := 247) d_TrustDeskModel_readRule_200 (by decide) ?_
                obtain ⟨_, b454, -⟩ := I32.1 _ _ t42
                have : (1 : Int32).toInt = 1 := by decide
                have : (50 : Int32).toInt = 50 := by decide
                refine mv_callV (kc' := 0) (ks' := 0) (As := [.int 1, .int 50]) (st9 := [.int 50, .int 1, .ref o0, .int v34, .ref a122]) d_TrustDeskModel_readRule_247 lV_TrustDeskModel_317 b454 rfl (tc_TrustDeskModel_number_x (d := (d + 22)) (x9 := x9) (o0 := o0) (x1 := 1) (x2 := 50) t42 R35 E43.1 (by have := R35.1 15 _ _ rfl; have := R35.1 16 _ _ rfl; have := R35.1 19 _ _ rfl; have := E43.f yS; omega) I32.start) rfl (Nat.le_of_ble_eq_true rfl) (Nat.le_of_ble_eq_true rfl) (Nat.le_of_ble_eq_true rfl) (hst := rfl) (fun b448r M449 n450 b448 => ?_)
                obtain ⟨T451, J452, v455, rfl, R456, f457, f458⟩ := b448
                have I453 := I32.call J452 (tm_sub (by decide)) (Or.inl rfl)
                have t459 := J452.up t42
                have t460 := J452.up t_a122
                have := (rv_c I32 J452 (I32.up h_o0) (k := 22) rfl)
                have := (rv_c I32 J452 (I32.up h_o0) (k := 24) rfl)
                have := ra_call I32 J452 (I32.up h_o0) (k := 5) rfl rfl rfl 44
                have := ra_call I32 J452 (I32.up h_o0) (k := 6) rfl rfl rfl 44
                have E461 : rE M0 M449 o0 0 2 := E43.trans f457 (by decide) (yR.2 5 _ _ rfl 44).1 (by decide) (by decide)
                have := f457.w
                have := f457.w2
                have := ra_call I32 J452 (I32.up h_o0) (k := 7) rfl rfl rfl ((880 + ra M0 o0 6 44).toNat)
                have := ra_call I32 J452 (I32.up h_o0) (k := 10) rfl rfl rfl ((880 + ra M0 o0 6 44).toNat)
                have K462 : rK M0 M449 o0 ((880 + ra M0 o0 6 44).toNat) := K45.same (sA_c I32 J452 (I32.up h_o0) (by decide))
                have K463 : nN M449 o0 := K46.same (sA_c I32 J452 (I32.up h_o0) (by decide)) (sF_c I32 J452 (I32.up h_o0) (by decide))
                have q464 := J452.keep t42 (by decide) q47
                have t465 := J452.up t48
                have q466 := J452.keep t42 (by decide) q121
                refine tr_iastR (k := 8) I453 R456 (I453.up h_o0) q466 t460 (by decide) (by decide) (fun lo hi h => by cases h; have := R456.1 15 _ _ rfl; have := R456.1 16 _ _ rfl; have := R456.1 19 _ _ rfl; have := E461.f yS; exact ⟨by show ((-1) : Int) ≤ v455.toInt; omega, by show v455.toInt ≤ (720 : Int); omega⟩) (Or.inl (by decide)) d_TrustDeskModel_readRule_250 (vp_in_iff.mpr (by have := R456.1 15 _ _ rfl; have := R456.1 16 _ _ rfl; have := R456.1 19 _ _ rfl; have := E461.f yS; omega)) (fun M467 I468 K469 R470 E471 A472 V473 => ?_)
                have := V473 15
                have := V473 16
                have := V473 17
                have := V473 19
                have := V473 22
                have := V473 24
                have := A472 5 (by decide) rfl 44
                have := A472 6 (by decide) rfl 44
                have E474 : rE M0 M467 o0 0 2 := E461.same (fun k _ _ => V473 k) (fun k h1 h2 => A472 k (by omega) (by rcases (show k = 4 ∨ k = 5 by omega) with rfl | rfl <;> rfl))
                have := A472 7 (by decide) rfl ((880 + ra M0 o0 6 44).toNat)
                have := A472 10 (by decide) rfl ((880 + ra M0 o0 6 44).toNat)
                have h475 : (880 + ra M0 o0 6 44).toNat = v34.toNatClampNeg := by have := mz_nat9 (i := v34) (by have := R456.1 15 _ _ rfl; have := R456.1 16 _ _ rfl; have := R456.1 19 _ _ rfl; have := E461.f yS; omega); have := R456.1 15 _ _ rfl; have := R456.1 16 _ _ rfl; have := R456.1 19 _ _ rfl; have := E461.f yS; omega
                have : ra M467 o0 8 ((880 + ra M0 o0 6 44).toNat) = v455.toInt := (E471 _).trans (if_pos h475)
                have K476 : rK M0 M467 o0 ((880 + ra M0 o0 6 44).toNat) := K462.st A472 E471 (by have := mz_nat9 (i := v34) (by have := R456.1 15 _ _ rfl; have := R456.1 16 _ _ rfl; have := R456.1 19 _ _ rfl; have := E461.f yS; omega); have := R456.1 15 _ _ rfl; have := R456.1 16 _ _ rfl; have := R456.1 19 _ _ rfl; have := E461.f yS; omega)
                have K477 : nN M467 o0 := K463.same (sA_a A472 (by decide)) (sF_a V473)
                refine mv_aload_n d_TrustDeskModel_readRule_251 rfl rfl ?_
                refine mv_bipush (v := 59) d_TrustDeskModel_readRule_252 (by decide) ?_
                obtain ⟨_, b484, -⟩ := I468.1 _ _ t459
                have : (59 : Int32).toInt = 59 := by decide
                refine mv_callV (kc' := 0) (ks' := 0) (As := [.int 59]) (st9 := [.int 59, .ref o0]) d_TrustDeskModel_readRule_254 lV_TrustDeskModel_291 b484 rfl (tc_TrustDeskModel_wantSign_x (d := (d + 22)) (x9 := x9) (o0 := o0) (x1 := 59) t459 R470 E474.1 (by have := R470.1 15 _ _ rfl; have := R470.1 16 _ _ rfl; have := R470.1 19 _ _ rfl; have := E474.f yS; omega) I468.start) rfl (Nat.le_of_ble_eq_true rfl) (Nat.le_of_ble_eq_true rfl) (Nat.le_of_ble_eq_true rfl) (hst := rfl) (fun b478r M479 n480 b478 => ?_)
                obtain ⟨T481, J482, rfl, R485, f486⟩ := b478
                have I483 := I468.call J482 (tm_sub (by decide)) (Or.inl rfl)
                have t487 := J482.up t459
                have := (rv_c I468 J482 (I468.up h_o0) (k := 22) rfl)
                have := (rv_c I468 J482 (I468.up h_o0) (k := 24) rfl)
                have := ra_call I468 J482 (I468.up h_o0) (k := 5) rfl rfl rfl 44
                have := ra_call I468 J482 (I468.up h_o0) (k := 6) rfl rfl rfl 44
                have E488 : rE M0 M479 o0 0 3 := E474.trans f486 (by decide) (yR.2 5 _ _ rfl 44).1 (by decide) (by decide)
                have := f486.w
                have := f486.w2
                have := ra_call I468 J482 (I468.up h_o0) (k := 7) rfl rfl rfl ((880 + ra M0 o0 6 44).toNat)
                have := ra_call I468 J482 (I468.up h_o0) (k := 10) rfl rfl rfl ((880 + ra M0 o0 6 44).toNat)
                have := ra_call I468 J482 (I468.up h_o0) (k := 8) rfl rfl rfl ((880 + ra M0 o0 6 44).toNat)
                have K489 : rK M0 M479 o0 ((880 + ra M0 o0 6 44).toNat) := K476.same (sA_c I468 J482 (I468.up h_o0) (by decide))
                have K490 : nN M479 o0 := K477.same (sA_c I468 J482 (I468.up h_o0) (by decide)) (sF_c I468 J482 (I468.up h_o0) (by decide))
                have q491 := J482.keep t459 (by decide) (K469 _ 13 6 _ q464)
                have t492 := J482.up t465
                have q493 := J482.keep t459 (by decide) (K469 _ 13 8 _ q466)
                have t494 := J482.up t460
                refine mv_aload_n d_TrustDeskModel_readRule_257 rfl rfl ?_
                obtain ⟨a496, q495, t_a496⟩ := tm_atR I483 t487 (k := 12) rfl
                refine tr_getK q495 d_TrustDeskModel_readRule_258 f_TrustDeskModel_41_13 ?_
                refine mv_iload_n d_TrustDeskModel_readRule_261 rfl rfl ?_
                refine mv_aload_n d_TrustDeskModel_readRule_262 rfl rfl ?_
                obtain ⟨a498, q497, t_a498⟩ := tm_atR I483 t487 (k := 5) rfl
                refine tr_getK q497 d_TrustDeskModel_readRule_263 f_TrustDeskModel_20_13 ?_
                refine mv_bipush (v := 44) d_TrustDeskModel_readRule_266 (by decide) ?_
                refine tr_ialdR (o := o0) (k := 5) I483 q497 t_a498 (by decide) d_TrustDeskModel_readRule_268 (by unfold vp_in; decide) (fun v499 e500 => ?_)
                have := R485.a (k := 5) rfl (44 : Int32).toNatClampNeg
                have : v499.toInt = ra M479 o0 5 44 := e500
                refine tr_iastR (k := 12) I483 R485 (I483.up h_o0) q495 t_a496 (by decide) (by decide) (fun lo hi h => by cases h; have := R485.1 15 _ _ rfl; have := R485.1 16 _ _ rfl; have := R485.1 19 _ _ rfl; have := E488.f yS; exact ⟨by show (0 : Int) ≤ v499.toInt; omega, by show v499.toInt ≤ (400 : Int); omega⟩) (Or.inl (by decide)) d_TrustDeskModel_readRule_269 (vp_in_iff.mpr (by have := R485.1 15 _ _ rfl; have := R485.1 16 _ _ rfl; have := R485.1 19 _ _ rfl; have := E488.f yS; omega)) (fun M501 I502 K503 R504 E505 A506 V507 => ?_)
                have := V507 15
                have := V507 16
                have := V507 17
                have := V507 19
                have := V507 22
                have := V507 24
                have := A506 5 (by decide) rfl 44
                have := A506 6 (by decide) rfl 44
                have E508 : rE M0 M501 o0 0 3 := E488.same (fun k _ _ => V507 k) (fun k h1 h2 => A506 k (by omega) (by rcases (show k = 4 ∨ k = 5 by omega) with rfl | rfl <;> rfl))
                have := A506 7 (by decide) rfl ((880 + ra M0 o0 6 44).toNat)
                have := A506 10 (by decide) rfl ((880 + ra M0 o0 6 44).toNat)
                have := A506 8 (by decide) rfl ((880 + ra M0 o0 6 44).toNat)
                have h509 : (880 + ra M0 o0 6 44).toNat = v34.toNatClampNeg := by have := mz_nat9 (i := v34) (by have := R485.1 15 _ _ rfl; have := R485.1 16 _ _ rfl; have := R485.1 19 _ _ rfl; have := E488.f yS; omega); have := R485.1 15 _ _ rfl; have := R485.1 16 _ _ rfl; have := R485.1 19 _ _ rfl; have := E488.f yS; omega
                have : ra M501 o0 12 ((880 + ra M0 o0 6 44).toNat) = v499.toInt := (E505 _).trans (if_pos h509)
                have K510 : rK M0 M501 o0 ((880 + ra M0 o0 6 44).toNat) := K489.st A506 E505 (by have := mz_nat9 (i := v34) (by have := R485.1 15 _ _ rfl; have := R485.1 16 _ _ rfl; have := R485.1 19 _ _ rfl; have := E488.f yS; omega); have := R485.1 15 _ _ rfl; have := R485.1 16 _ _ rfl; have := R485.1 19 _ _ rfl; have := E488.f yS; omega)
                have K511 : nN M501 o0 := K490.same (sA_a A506 (by decide)) (sF_a V507)
                exact mv_vret d_TrustDeskModel_readRule_270 rfl ⟨_, I502, rfl, R504, (rW.of E508.1 (fun w9 => (by have := R504.1 15 _ _ rfl; have := R504.1 16 _ _ rfl; have := R504.1 19 _ _ rfl; have := E508.f yS; omega)) (fun w9 => rG.step yG yR E508 w9 K510 (by have := yR.2 6 _ _ rfl 44; omega) (by have := R504.1 15 _ _ rfl; have := R504.1 16 _ _ rfl; have := R504.1 19 _ _ rfl; have := E508.f yS; omega) (by have := R504.1 15 _ _ rfl; have := R504.1 16 _ _ rfl; have := R504.1 19 _ _ rfl; have := E508.f yS; omega) (fun h9 => by exfalso; have := R504.1 15 _ _ rfl; have := R504.1 16 _ _ rfl; have := R504.1 19 _ _ rfl; have := E508.f yS; omega) (fun h9 => (by have := R504.1 15 _ _ rfl; have := R504.1 16 _ _ rfl; have := R504.1 19 _ _ rfl; have := E508.f yS; omega)) (by have := R504.1 15 _ _ rfl; have := R504.1 16 _ _ rfl; have := R504.1 19 _ _ rfl; have := E508.f yS; omega) K511)), (rO.of E508 K510 (by have := yR.2 6 _ _ rfl 44; omega)), (by have := R504.1 15 _ _ rfl; have := R504.1 16 _ _ rfl; have := R504.1 19 _ _ rfl; have := E508.f yS; omega), (by have := R504.1 15 _ _ rfl; have := R504.1 16 _ _ rfl; have := R504.1 19 _ _ rfl; have := E508.f yS; omega)⟩
            · refine mv_iconst (v := 0) d_TrustDeskModel_readRule_181 (by decide) ?_
              refine mv_goto (tgt := 186) d_TrustDeskModel_readRule_182 (by decide) ?_
              refine mv_istore_n (lv' := [(3, .int 0), (2, .int v34), (1, .int v10), (0, .ref o0)]) d_TrustDeskModel_readRule_186 rfl (by decide) rfl ?_
              refine mv_aload_n d_TrustDeskModel_readRule_187 rfl rfl ?_
              obtain ⟨a513, q512, t_a513⟩ := tm_atR I32 t42 (k := 8) rfl
              refine tr_getK q512 d_TrustDeskModel_readRule_188 f_TrustDeskModel_29_13 ?_
              refine mv_iload_n d_TrustDeskModel_readRule_191 rfl rfl ?_
              refine mv_aload_n d_TrustDeskModel_readRule_192 rfl rfl ?_
              refine mv_iload_n d_TrustDeskModel_readRule_193 rfl rfl ?_
              refine mv_iload_n d_TrustDeskModel_readRule_194 rfl rfl ?_
              have := mz_hi v10
              refine mv_if_neZ (tgt := 203) (a := v10.toInt) d_TrustDeskModel_readRule_195 (by decide) rfl (fun b514 => ?_) (fun b514 => absurd b514 (by omega))
              refine mv_iload_n d_TrustDeskModel_readRule_203 rfl rfl ?_
              refine mv_iconst (v := 1) d_TrustDeskModel_readRule_204 (by decide) ?_
              have := mz_hi v10
              refine mv_icmp_neZ (tgt := 213) (a := v10.toInt) (b := 1) d_TrustDeskModel_readRule_205 (by decide) rfl (by decide) (fun b515 => ?_) (fun b515 => absurd b515 (by omega))
              refine mv_iload_n d_TrustDeskModel_readRule_213 rfl rfl ?_
              refine mv_iconst (v := 2) d_TrustDeskModel_readRule_214 (by decide) ?_
              have := mz_hi v10
              refine mv_icmp_neZ (tgt := 224) (a := v10.toInt) (b := 2) d_TrustDeskModel_readRule_215 (by decide) rfl (by decide) (fun b516 => ?_) (fun b516 => absurd b516 (by omega))
              refine mv_iload_n d_TrustDeskModel_readRule_224 rfl rfl ?_
              refine mv_iconst (v := 3) d_TrustDeskModel_readRule_225 (by decide) ?_
              have := mz_hi v10
              refine mv_icmp_neZ (tgt := 235) (a := v10.toInt) (b := 3) d_TrustDeskModel_readRule_226 (by decide) rfl (by decide) (fun b517 => ?_) (fun b517 => absurd b517 (by omega))
              refine mv_iload_n d_TrustDeskModel_readRule_235 rfl rfl ?_
              refine mv_iconst (v := 4) d_TrustDeskModel_readRule_236 (by decide) ?_
              have := mz_hi v10
              refine mv_icmp_neZ (tgt := 245) (a := v10.toInt) (b := 4) d_TrustDeskModel_readRule_237 (by decide) rfl (by decide) (fun b518 => absurd b518 (by omega)) (fun b518 => ?_)
              refine mv_bipush (v := 20) d_TrustDeskModel_readRule_240 (by decide) ?_
              refine mv_goto (tgt := 247) d_TrustDeskModel_readRule_242 (by decide) ?_
              obtain ⟨_, b525, -⟩ := I32.1 _ _ t42
              have : (0 : Int32).toInt = 0 := by decide
              have : (20 : Int32).toInt = 20 := by decide
              refine mv_callV (kc' := 0) (ks' := 0) (As := [.int 0, .int 20]) (st9 := [.int 20, .int 0, .ref o0, .int v34, .ref a513]) d_TrustDeskModel_readRule_247 lV_TrustDeskModel_317 b525 rfl (tc_TrustDeskModel_number_x (d := (d + 22)) (x9 := x9) (o0 := o0) (x1 := 0) (x2 := 20) t42 R35 E43.1 (by have := R35.1 15 _ _ rfl; have := R35.1 16 _ _ rfl; have := R35.1 19 _ _ rfl; have := E43.f yS; omega) I32.start) rfl (Nat.le_of_ble_eq_true rfl) (Nat.le_of_ble_eq_true rfl) (Nat.le_of_ble_eq_true rfl) (hst := rfl) (fun b519r M520 n521 b519 => ?_)
              obtain ⟨T522, J523, v526, rfl, R527, f528, f529⟩ := b519
              have I524 := I32.call J523 (tm_sub (by decide)) (Or.inl rfl)
              have t530 := J523.up t42
              have t531 := J523.up t_a513
              have := (rv_c I32 J523 (I32.up h_o0) (k := 22) rfl)
              have := (rv_c I32 J523 (I32.up h_o0) (k := 24) rfl)
              have := ra_call I32 J523 (I32.up h_o0) (k := 5) rfl rfl rfl 44
              have := ra_call I32 J523 (I32.up h_o0) (k := 6) rfl rfl rfl 44
              have E532 : rE M0 M520 o0 0 2 := E43.trans f528 (by decide) (yR.2 5 _ _ rfl 44).1 (by decide) (by decide)
              have := f528.w
              have := f528.w2
              have := ra_call I32 J523 (I32.up h_o0) (k := 7) rfl rfl rfl ((880 + ra M0 o0 6 44).toNat)
              have := ra_call I32 J523 (I32.up h_o0) (k := 10) rfl rfl rfl ((880 + ra M0 o0 6 44).toNat)
              have K533 : rK M0 M520 o0 ((880 + ra M0 o0 6 44).toNat) := K45.same (sA_c I32 J523 (I32.up h_o0) (by decide))
              have K534 : nN M520 o0 := K46.same (sA_c I32 J523 (I32.up h_o0) (by decide)) (sF_c I32 J523 (I32.up h_o0) (by decide))
              have q535 := J523.keep t42 (by decide) q47
              have t536 := J523.up t48
              have q537 := J523.keep t42 (by decide) q512
              refine tr_iastR (k := 8) I524 R527 (I524.up h_o0) q537 t531 (by decide) (by decide) (fun lo hi h => by cases h; have := R527.1 15 _ _ rfl; have := R527.1 16 _ _ rfl; have := R527.1 19 _ _ rfl; have := E532.f yS; exact ⟨by show ((-1) : Int) ≤ v526.toInt; omega, by show v526.toInt ≤ (720 : Int); omega⟩) (Or.inl (by decide)) d_TrustDeskModel_readRule_250 (vp_in_iff.mpr (by have := R527.1 15 _ _ rfl; have := R527.1 16 _ _ rfl; have := R527.1 19 _ _ rfl; have := E532.f yS; omega)) (fun M538 I539 K540 R541 E542 A543 V544 => ?_)
              have := V544 15
              have := V544 16
              have := V544 17
              have := V544 19
              have := V544 22
              have := V544 24
              have := A543 5 (by decide) rfl 44
              have := A543 6 (by decide) rfl 44
              have E545 : rE M0 M538 o0 0 2 := E532.same (fun k _ _ => V544 k) (fun k h1 h2 => A543 k (by omega) (by rcases (show k = 4 ∨ k = 5 by omega) with rfl | rfl <;> rfl))
              have := A543 7 (by decide) rfl ((880 + ra M0 o0 6 44).toNat)
              have := A543 10 (by decide) rfl ((880 + ra M0 o0 6 44).toNat)
              have h546 : (880 + ra M0 o0 6 44).toNat = v34.toNatClampNeg := by have := mz_nat9 (i := v34) (by have := R527.1 15 _ _ rfl; have := R527.1 16 _ _ rfl; have := R527.1 19 _ _ rfl; have := E532.f yS; omega); have := R527.1 15 _ _ rfl; have := R527.1 16 _ _ rfl; have := R527.1 19 _ _ rfl; have := E532.f yS; omega
              have : ra M538 o0 8 ((880 + ra M0 o0 6 44).toNat) = v526.toInt := (E542 _).trans (if_pos h546)
              have K547 : rK M0 M538 o0 ((880 + ra M0 o0 6 44).toNat) := K533.st A543 E542 (by have := mz_nat9 (i := v34) (by have := R527.1 15 _ _ rfl; have := R527.1 16 _ _ rfl; have := R527.1 19 _ _ rfl; have := E532.f yS; omega); have := R527.1 15 _ _ rfl; have := R527.1 16 _ _ rfl; have := R527.1 19 _ _ rfl; have := E532.f yS; omega)
              have K548 : nN M538 o0 := K534.same (sA_a A543 (by decide)) (sF_a V544)
              refine mv_aload_n d_TrustDeskModel_readRule_251 rfl rfl ?_
              refine mv_bipush (v := 59) d_TrustDeskModel_readRule_252 (by decide) ?_
              obtain ⟨_, b555, -⟩ := I539.1 _ _ t530
              have : (59 : Int32).toInt = 59 := by decide
              refine mv_callV (kc' := 0) (ks' := 0) (As := [.int 59]) (st9 := [.int 59, .ref o0]) d_TrustDeskModel_readRule_254 lV_TrustDeskModel_291 b555 rfl (tc_TrustDeskModel_wantSign_x (d := (d + 22)) (x9 := x9) (o0 := o0) (x1 := 59) t530 R541 E545.1 (by have := R541.1 15 _ _ rfl; have := R541.1 16 _ _ rfl; have := R541.1 19 _ _ rfl; have := E545.f yS; omega) I539.start) rfl (Nat.le_of_ble_eq_true rfl) (Nat.le_of_ble_eq_true rfl) (Nat.le_of_ble_eq_true rfl) (hst := rfl) (fun b549r M550 n551 b549 => ?_)
              obtain ⟨T552, J553, rfl, R556, f557⟩ := b549
              have I554 := I539.call J553 (tm_sub (by decide)) (Or.inl rfl)
              have t558 := J553.up t530
              have := (rv_c I539 J553 (I539.up h_o0) (k := 22) rfl)
              have := (rv_c I539 J553 (I539.up h_o0) (k := 24) rfl)
              have := ra_call I539 J553 (I539.up h_o0) (k := 5) rfl rfl rfl 44
              have := ra_call I539 J553 (I539.up h_o0) (k := 6) rfl rfl rfl 44
              have E559 : rE M0 M550 o0 0 3 := E545.trans f557 (by decide) (yR.2 5 _ _ rfl 44).1 (by decide) (by decide)
              have := f557.w
              have := f557.w2
              have := ra_call I539 J553 (I539.up h_o0) (k := 7) rfl rfl rfl ((880 + ra M0 o0 6 44).toNat)
              have := ra_call I539 J553 (I539.up h_o0) (k := 10) rfl rfl rfl ((880 + ra M0 o0 6 44).toNat)
              have := ra_call I539 J553 (I539.up h_o0) (k := 8) rfl rfl rfl ((880 + ra M0 o0 6 44).toNat)
              have K560 : rK M0 M550 o0 ((880 + ra M0 o0 6 44).toNat) := K547.same (sA_c I539 J553 (I539.up h_o0) (by decide))
              have K561 : nN M550 o0 := K548.same (sA_c I539 J553 (I539.up h_o0) (by decide)) (sF_c I539 J553 (I539.up h_o0) (by decide))
              have q562 := J553.keep t530 (by decide) (K540 _ 13 6 _ q535)
              have t563 := J553.up t536
              have q564 := J553.keep t530 (by decide) (K540 _ 13 8 _ q537)
              have t565 := J553.up t531
              refine mv_aload_n d_TrustDeskModel_readRule_257 rfl rfl ?_
              obtain ⟨a567, q566, t_a567⟩ := tm_atR I554 t558 (k := 12) rfl
              refine tr_getK q566 d_TrustDeskModel_readRule_258 f_TrustDeskModel_41_13 ?_
              refine mv_iload_n d_TrustDeskModel_readRule_261 rfl rfl ?_
              refine mv_aload_n d_TrustDeskModel_readRule_262 rfl rfl ?_
              obtain ⟨a569, q568, t_a569⟩ := tm_atR I554 t558 (k := 5) rfl
              refine tr_getK q568 d_TrustDeskModel_readRule_263 f_TrustDeskModel_20_13 ?_
              refine mv_bipush (v := 44) d_TrustDeskModel_readRule_266 (by decide) ?_
              refine tr_ialdR (o := o0) (k := 5) I554 q568 t_a569 (by decide) d_TrustDeskModel_readRule_268 (by unfold vp_in; decide) (fun v570 e571 => ?_)
              have := R556.a (k := 5) rfl (44 : Int32).toNatClampNeg
              have : v570.toInt = ra M550 o0 5 44 := e571
              refine tr_iastR (k := 12) I554 R556 (I554.up h_o0) q566 t_a567 (by decide) (by decide) (fun lo hi h => by cases h; have := R556.1 15 _ _ rfl; have := R556.1 16 _ _ rfl; have := R556.1 19 _ _ rfl; have := E559.f yS; exact ⟨by show (0 : Int) ≤ v570.toInt; omega, by show v570.toInt ≤ (400 : Int); omega⟩) (Or.inl (by decide)) d_TrustDeskModel_readRule_269 (vp_in_iff.mpr (by have := R556.1 15 _ _ rfl; have := R556.1 16 _ _ rfl; have := R556.1 19 _ _ rfl; have := E559.f yS; omega)) (fun M572 I573 K574 R575 E576 A577 V578 => ?_)
              have := V578 15
              have := V578 16
              have := V578 17
              have := V578 19
              have := V578 22
              have := V578 24
              have := A577 5 (by decide) rfl 44
              have := A577 6 (by decide) rfl 44
              have E579 : rE M0 M572 o0 0 3 := E559.same (fun k _ _ => V578 k) (fun k h1 h2 => A577 k (by omega) (by rcases (show k = 4 ∨ k = 5 by omega) with rfl | rfl <;> rfl))
              have := A577 7 (by decide) rfl ((880 + ra M0 o0 6 44).toNat)
              have := A577 10 (by decide) rfl ((880 + ra M0 o0 6 44).toNat)
              have := A577 8 (by decide) rfl ((880 + ra M0 o0 6 44).toNat)
              have h580 : (880 + ra M0 o0 6 44).toNat = v34.toNatClampNeg := by have := mz_nat9 (i := v34) (by have := R556.1 15 _ _ rfl; have := R556.1 16 _ _ rfl; have := R556.1 19 _ _ rfl; have := E559.f yS; omega); have := R556.1 15 _ _ rfl; have := R556.1 16 _ _ rfl; have := R556.1 19 _ _ rfl; have := E559.f yS; omega
              have : ra M572 o0 12 ((880 + ra M0 o0 6 44).toNat) = v570.toInt := (E576 _).trans (if_pos h580)
              have K581 : rK M0 M572 o0 ((880 + ra M0 o0 6 44).toNat) := K560.st A577 E576 (by have := mz_nat9 (i := v34) (by have := R556.1 15 _ _ rfl; have := R556.1 16 _ _ rfl; have := R556.1 19 _ _ rfl; have := E559.f yS; omega); have := R556.1 15 _ _ rfl; have := R556.1 16 _ _ rfl; have := R556.1 19 _ _ rfl; have := E559.f yS; omega)
              have K582 : nN M572 o0 := K561.same (sA_a A577 (by decide)) (sF_a V578)
              exact mv_vret d_TrustDeskModel_readRule_270 rfl ⟨_, I573, rfl, R575, (rW.of E579.1 (fun w9 => (by have := R575.1 15 _ _ rfl; have := R575.1 16 _ _ rfl; have := R575.1 19 _ _ rfl; have := E579.f yS; omega)) (fun w9 => rG.step yG yR E579 w9 K581 (by have := yR.2 6 _ _ rfl 44; omega) (by have := R575.1 15 _ _ rfl; have := R575.1 16 _ _ rfl; have := R575.1 19 _ _ rfl; have := E579.f yS; omega) (by have := R575.1 15 _ _ rfl; have := R575.1 16 _ _ rfl; have := R575.1 19 _ _ rfl; have := E579.f yS; omega) (fun h9 => by exfalso; have := R575.1 15 _ _ rfl; have := R575.1 16 _ _ rfl; have := R575.1 19 _ _ rfl; have := E579.f yS; omega) (fun h9 => (by have := R575.1 15 _ _ rfl; have := R575.1 16 _ _ rfl; have := R575.1 19 _ _ rfl; have := E579.f yS; omega)) (by have := R575.1 15 _ _ rfl; have := R575.1 16 _ _ rfl; have := R575.1 19 _ _ rfl; have := E579.f yS; omega) K582)), (rO.of E579 K581 (by have := yR.2 6 _ _ rfl 44; omega)), (by have := R575.1 15 _ _ rfl; have := R575.1 16 _ _ rfl; have := R575.1 19 _ _ rfl; have := E579.f yS; omega), (by have := R575.1 15 _ _ rfl; have := R575.1 16 _ _ rfl; have := R575.1 19 _ _ rfl; have := E579.f yS; omega)⟩
        · refine mv_aload_n d_TrustDeskModel_readRule_55 rfl rfl ?_
          obtain ⟨a584, q583, t_a584⟩ := tm_atR I32 t42 (k := 8) rfl
          refine tr_getK q583 d_TrustDeskModel_readRule_56 f_TrustDeskModel_29_13 ?_
          refine mv_iload_n d_TrustDeskModel_readRule_59 rfl rfl ?_
          refine mv_aload_n d_TrustDeskModel_readRule_60 rfl rfl ?_
          refine mv_ldcSw (id := 21) (tx := "near") d_TrustDeskModel_readRule_61 (List.mem_of_getElem? (i := 11) rfl) ?_
          obtain ⟨_, b591, -⟩ := I32.1 _ _ t42
          refine mv_callV (kc' := 0) (ks' := 0) (As := [.ref 21]) (st9 := [.ref 21, .ref o0, .int v34, .ref a584]) d_TrustDeskModel_readRule_64 lV_TrustDeskModel_244 b591 rfl (tc_TrustDeskModel_isWord_s1_21_x (d := (d + 20)) (x9 := x9) (o0 := o0) t42 R35 I32.start) rfl (Nat.le_of_ble_eq_true rfl) (Nat.le_of_ble_eq_true rfl) (Nat.le_of_ble_eq_true rfl) (hst := rfl) (fun b585r M586 n587 b585 => ?_)
          obtain ⟨T588, J589, v592, rfl, b593, b594, R595, f596⟩ := b585
          have I590 := I32.call J589 (tm_sub (by decide)) (Or.inl rfl)
          have t597 := J589.up t42
          have t598 := J589.up t_a584
          have := (rv_c I32 J589 (I32.up h_o0) (k := 15) rfl)
          have := (rv_c I32 J589 (I32.up h_o0) (k := 16) rfl)
          have := (rv_c I32 J589 (I32.up h_o0) (k := 17) rfl)
          have := (rv_c I32 J589 (I32.up h_o0) (k := 19) rfl)
          have := (rv_c I32 J589 (I32.up h_o0) (k := 22) rfl)
          have := (rv_c I32 J589 (I32.up h_o0) (k := 24) rfl)
          have := ra_call I32 J589 (I32.up h_o0) (k := 5) rfl rfl rfl 44
          have := ra_call I32 J589 (I32.up h_o0) (k := 6) rfl rfl rfl 44
          have E599 : rE M0 M586 o0 0 1 := E43.same (rE_hv I32 J589 (I32.up h_o0) 15 19 (by decide)) (rE_ha I32 J589 (I32.up h_o0) (by decide))
          have := ra_call I32 J589 (I32.up h_o0) (k := 7) rfl rfl rfl ((880 + ra M0 o0 6 44).toNat)
          have := ra_call I32 J589 (I32.up h_o0) (k := 10) rfl rfl rfl ((880 + ra M0 o0 6 44).toNat)
          have K600 : rK M0 M586 o0 ((880 + ra M0 o0 6 44).toNat) := K45.same (sA_c I32 J589 (I32.up h_o0) (by decide))
          have K601 : nN M586 o0 := K46.same (sA_c I32 J589 (I32.up h_o0) (by decide)) (sF_c I32 J589 (I32.up h_o0) (by decide))
          have q602 := J589.keep t42 (by decide) q47
          have t603 := J589.up t48
          have q604 := J589.keep t42 (by decide) q49
          have q605 := J589.keep t42 (by decide) q583
          have := mz_hi v592
          refine mv_if_eqZ (tgt := 74) (a := v592.toInt) d_TrustDeskModel_readRule_67 (by decide) rfl (fun b606 => ?_) (fun b606 => ?_)
          · refine mv_aload_n d_TrustDeskModel_readRule_74 rfl rfl ?_
            refine mv_ldcSw (id := 22) (tx := "join") d_TrustDeskModel_readRule_75 (List.mem_of_getElem? (i := 12) rfl) ?_
            obtain ⟨_, b613, -⟩ := I590.1 _ _ t597
            refine mv_callV (kc' := 0) (ks' := 0) (As := [.ref 22]) (st9 := [.ref 22, .ref o0, .int v34, .ref a584]) d_TrustDeskModel_readRule_78 lV_TrustDeskModel_244 b613 rfl (tc_TrustDeskModel_isWord_s1_22_x (d := (d + 20)) (x9 := x9) (o0 := o0) t597 R595 I590.start) rfl (Nat.le_of_ble_eq_true rfl) (Nat.le_of_ble_eq_true rfl) (Nat.le_of_ble_eq_true rfl) (hst := rfl) (fun b607r M608 n609 b607 => ?_)
            obtain ⟨T610, J611, v614, rfl, b615, b616, R617, f618⟩ := b607
            have I612 := I590.call J611 (tm_sub (by decide)) (Or.inl rfl)
            have t619 := J611.up t597
            have t620 := J611.up t598
            have := (rv_c I590 J611 (I590.up h_o0) (k := 15) rfl)
            have := (rv_c I590 J611 (I590.up h_o0) (k := 16) rfl)
            have := (rv_c I590 J611 (I590.up h_o0) (k := 17) rfl)
            have := (rv_c I590 J611 (I590.up h_o0) (k := 19) rfl)
            have := (rv_c I590 J611 (I590.up h_o0) (k := 22) rfl)
            have := (rv_c I590 J611 (I590.up h_o0) (k := 24) rfl)
            have := ra_call I590 J611 (I590.up h_o0) (k := 5) rfl rfl rfl 44
            have := ra_call I590 J611 (I590.up h_o0) (k := 6) rfl rfl rfl 44
            have E621 : rE M0 M608 o0 0 1 := E599.same (rE_hv I590 J611 (I590.up h_o0) 15 19 (by decide)) (rE_ha I590 J611 (I590.up h_o0) (by decide))
            have := ra_call I590 J611 (I590.up h_o0) (k := 7) rfl rfl rfl ((880 + ra M0 o0 6 44).toNat)
            have := ra_call I590 J611 (I590.up h_o0) (k := 10) rfl rfl rfl ((880 + ra M0 o0 6 44).toNat)
            have K622 : rK M0 M608 o0 ((880 + ra M0 o0 6 44).toNat) := K600.same (sA_c I590 J611 (I590.up h_o0) (by decide))
            have K623 : nN M608 o0 := K601.same (sA_c I590 J611 (I590.up h_o0) (by decide)) (sF_c I590 J611 (I590.up h_o0) (by decide))
            have q624 := J611.keep t597 (by decide) q602
            have t625 := J611.up t603
            have q626 := J611.keep t597 (by decide) q604
            have q627 := J611.keep t597 (by decide) q605
            have := mz_hi v614
            refine mv_if_eqZ (tgt := 88) (a := v614.toInt) d_TrustDeskModel_readRule_81 (by decide) rfl (fun b628 => ?_) (fun b628 => ?_)
            · refine mv_aload_n d_TrustDeskModel_readRule_88 rfl rfl ?_
              refine mv_ldcSw (id := 23) (tx := "sale") d_TrustDeskModel_readRule_89 (List.mem_of_getElem? (i := 13) rfl) ?_
              obtain ⟨_, b635, -⟩ := I612.1 _ _ t619
              refine mv_callV (kc' := 0) (ks' := 0) (As := [.ref 23]) (st9 := [.ref 23, .ref o0, .int v34, .ref a584]) d_TrustDeskModel_readRule_92 lV_TrustDeskModel_244 b635 rfl (tc_TrustDeskModel_isWord_s1_23_x (d := (d + 20)) (x9 := x9) (o0 := o0) t619 R617 I612.start) rfl (Nat.le_of_ble_eq_true rfl) (Nat.le_of_ble_eq_true rfl) (Nat.le_of_ble_eq_true rfl) (hst := rfl) (fun b629r M630 n631 b629 => ?_)
              obtain ⟨T632, J633, v636, rfl, b637, b638, R639, f640⟩ := b629
              have I634 := I612.call J633 (tm_sub (by decide)) (Or.inl rfl)
              have t641 := J633.up t619
              have t642 := J633.up t620
              have := (rv_c I612 J633 (I612.up h_o0) (k := 15) rfl)
              have := (rv_c I612 J633 (I612.up h_o0) (k := 16) rfl)
              have := (rv_c I612 J633 (I612.up h_o0) (k := 17) rfl)
              have := (rv_c I612 J633 (I612.up h_o0) (k := 19) rfl)
              have := (rv_c I612 J633 (I612.up h_o0) (k := 22) rfl)
              have := (rv_c I612 J633 (I612.up h_o0) (k := 24) rfl)
              have := ra_call I612 J633 (I612.up h_o0) (k := 5) rfl rfl rfl 44
              have := ra_call I612 J633 (I612.up h_o0) (k := 6) rfl rfl rfl 44
              have E643 : rE M0 M630 o0 0 1 := E621.same (rE_hv I612 J633 (I612.up h_o0) 15 19 (by decide)) (rE_ha I612 J633 (I612.up h_o0) (by decide))
              have := ra_call I612 J633 (I612.up h_o0) (k := 7) rfl rfl rfl ((880 + ra M0 o0 6 44).toNat)
              have := ra_call I612 J633 (I612.up h_o0) (k := 10) rfl rfl rfl ((880 + ra M0 o0 6 44).toNat)
              have K644 : rK M0 M630 o0 ((880 + ra M0 o0 6 44).toNat) := K622.same (sA_c I612 J633 (I612.up h_o0) (by decide))
              have K645 : nN M630 o0 := K623.same (sA_c I612 J633 (I612.up h_o0) (by decide)) (sF_c I612 J633 (I612.up h_o0) (by decide))
              have q646 := J633.keep t619 (by decide) q624
              have t647 := J633.up t625
              have q648 := J633.keep t619 (by decide) q626
              have q649 := J633.keep t619 (by decide) q627
              have := mz_hi v636
              refine mv_if_eqZ (tgt := 102) (a := v636.toInt) d_TrustDeskModel_readRule_95 (by decide) rfl (fun b650 => ?_) (fun b650 => ?_)
              · refine mv_aload_n d_TrustDeskModel_readRule_102 rfl rfl ?_
                refine mv_ldcSw (id := 24) (tx := "strike") d_TrustDeskModel_readRule_103 (List.mem_of_getElem? (i := 14) rfl) ?_
                obtain ⟨_, b657, -⟩ := I634.1 _ _ t641
                refine mv_callV (kc' := 0) (ks' := 0) (As := [.ref 24]) (st9 := [.ref 24, .ref o0, .int v34, .ref a584]) d_TrustDeskModel_readRule_106 lV_TrustDeskModel_244 b657 rfl (tc_TrustDeskModel_isWord_s1_24_x (d := (d + 20)) (x9 := x9) (o0 := o0) t641 R639 I634.start) rfl (Nat.le_of_ble_eq_true rfl) (Nat.le_of_ble_eq_true rfl) (Nat.le_of_ble_eq_true rfl) (hst := rfl) (fun b651r M652 n653 b651 => ?_)
                obtain ⟨T654, J655, v658, rfl, b659, b660, R661, f662⟩ := b651
                have I656 := I634.call J655 (tm_sub (by decide)) (Or.inl rfl)
                have t663 := J655.up t641
                have t664 := J655.up t642
                have := (rv_c I634 J655 (I634.up h_o0) (k := 15) rfl)
                have := (rv_c I634 J655 (I634.up h_o0) (k := 16) rfl)
                have := (rv_c I634 J655 (I634.up h_o0) (k := 17) rfl)
                have := (rv_c I634 J655 (I634.up h_o0) (k := 19) rfl)
                have := (rv_c I634 J655 (I634.up h_o0) (k := 22) rfl)
                have := (rv_c I634 J655 (I634.up h_o0) (k := 24) rfl)
                have := ra_call I634 J655 (I634.up h_o0) (k := 5) rfl rfl rfl 44
                have := ra_call I634 J655 (I634.up h_o0) (k := 6) rfl rfl rfl 44
                have E665 : rE M0 M652 o0 0 1 := E643.same (rE_hv I634 J655 (I634.up h_o0) 15 19 (by decide)) (rE_ha I634 J655 (I634.up h_o0) (by decide))
                have := ra_call I634 J655 (I634.up h_o0) (k := 7) rfl rfl rfl ((880 + ra M0 o0 6 44).toNat)
                have := ra_call I634 J655 (I634.up h_o0) (k := 10) rfl rfl rfl ((880 + ra M0 o0 6 44).toNat)
                have K666 : rK M0 M652 o0 ((880 + ra M0 o0 6 44).toNat) := K644.same (sA_c I634 J655 (I634.up h_o0) (by decide))
                have K667 : nN M652 o0 := K645.same (sA_c I634 J655 (I634.up h_o0) (by decide)) (sF_c I634 J655 (I634.up h_o0) (by decide))
                have q668 := J655.keep t641 (by decide) q646
                have t669 := J655.up t647
                have q670 := J655.keep t641 (by decide) q648
                have q671 := J655.keep t641 (by decide) q649
                have := mz_hi v658
                refine mv_if_eqZ (tgt := 116) (a := v658.toInt) d_TrustDeskModel_readRule_109 (by decide) rfl (fun b672 => ?_) (fun b672 => ?_)
                · refine mv_iconst (v := (-1)) d_TrustDeskModel_readRule_116 (by decide) ?_
                  refine tr_iastR (k := 8) I656 R661 (I656.up h_o0) q671 t664 (by decide) (by decide) (fun lo hi h => by cases h; exact (by decide)) (Or.inl (by decide)) d_TrustDeskModel_readRule_117 (vp_in_iff.mpr (by have := R661.1 15 _ _ rfl; have := R661.1 16 _ _ rfl; have := R661.1 19 _ _ rfl; have := E665.f yS; omega)) (fun M673 I674 K675 R676 E677 A678 V679 => ?_)
                  have := V679 15
                  have := V679 16
                  have := V679 17
                  have := V679 19
                  have := V679 22
                  have := V679 24
                  have := A678 5 (by decide) rfl 44
                  have := A678 6 (by decide) rfl 44
                  have E680 : rE M0 M673 o0 0 1 := E665.same (fun k _ _ => V679 k) (fun k h1 h2 => A678 k (by omega) (by rcases (show k = 4 ∨ k = 5 by omega) with rfl | rfl <;> rfl))
                  have := A678 7 (by decide) rfl ((880 + ra M0 o0 6 44).toNat)
                  have := A678 10 (by decide) rfl ((880 + ra M0 o0 6 44).toNat)
                  have h681 : (880 + ra M0 o0 6 44).toNat = v34.toNatClampNeg := by have := mz_nat9 (i := v34) (by have := R661.1 15 _ _ rfl; have := R661.1 16 _ _ rfl; have := R661.1 19 _ _ rfl; have := E665.f yS; omega); have := R661.1 15 _ _ rfl; have := R661.1 16 _ _ rfl; have := R661.1 19 _ _ rfl; have := E665.f yS; omega
                  have : ra M673 o0 8 ((880 + ra M0 o0 6 44).toNat) = (-1) := (E677 _).trans (if_pos h681)
                  have K682 : rK M0 M673 o0 ((880 + ra M0 o0 6 44).toNat) := K666.st A678 E677 (by have := mz_nat9 (i := v34) (by have := R661.1 15 _ _ rfl; have := R661.1 16 _ _ rfl; have := R661.1 19 _ _ rfl; have := E665.f yS; omega); have := R661.1 15 _ _ rfl; have := R661.1 16 _ _ rfl; have := R661.1 19 _ _ rfl; have := E665.f yS; omega)
                  have K683 : nN M673 o0 := K667.same (sA_a A678 (by decide)) (sF_a V679)
                  refine mv_aload_n d_TrustDeskModel_readRule_118 rfl rfl ?_
                  refine tr_getK (k := 8) (K675 _ 13 8 _ q671) d_TrustDeskModel_readRule_119 f_TrustDeskModel_29_13 ?_
                  refine mv_iload_n d_TrustDeskModel_readRule_122 rfl rfl ?_
                  refine tr_ialdR (o := o0) (k := 8) I674 (K675 _ 13 8 _ q671) t664 (by decide) d_TrustDeskModel_readRule_123 (vp_in_iff.mpr (by have := R676.1 15 _ _ rfl; have := R676.1 16 _ _ rfl; have := R676.1 19 _ _ rfl; have := E680.f yS; omega)) (fun v684 e685 => ?_)
                  have := R676.a (k := 8) rfl (v34 : Int32).toNatClampNeg
                  have h686 : (880 + ra M0 o0 6 44).toNat = v34.toNatClampNeg := by have := mz_nat9 (i := v34) (by have := R676.1 15 _ _ rfl; have := R676.1 16 _ _ rfl; have := R676.1 19 _ _ rfl; have := E680.f yS; omega); have := R676.1 15 _ _ rfl; have := R676.1 16 _ _ rfl; have := R676.1 19 _ _ rfl; have := E680.f yS; omega
                  have : v684.toInt = ra M673 o0 8 ((880 + ra M0 o0 6 44).toNat) := by rw [e685, h686]
                  refine mv_iconst (v := (-1)) d_TrustDeskModel_readRule_124 (by decide) ?_
                  have := mz_hi v684
                  refine mv_icmp_neZ (tgt := 133) (a := v684.toInt) (b := (-1)) d_TrustDeskModel_readRule_125 (by decide) rfl (by decide) (fun b687 => ?_) (fun b687 => ?_)
                  · refine mv_aload_n d_TrustDeskModel_readRule_133 rfl rfl ?_
                    obtain ⟨_, b688, -⟩ := I674.1 _ _ t663
                    refine mv_callV (kc1 := 0) (ks1 := 0) (kc' := 0) (ks' := 0) (As := []) (st9 := [.ref o0]) d_TrustDeskModel_readRule_134 lV_TrustDeskModel_230 b688 rfl (mj_enter (by decide) (Nat.le_of_ble_eq_true rfl) ?_) rfl (Nat.le_of_ble_eq_true rfl) (Nat.le_of_ble_eq_true rfl) (Nat.le_of_ble_eq_true rfl) (hst := rfl) (fun _ _ _ h => h)
                    refine mv_aload_n d_TrustDeskModel_isWell_0 rfl rfl ?_
                    refine tr_getK (k := 19) (K675 _ 13 19 _ q670) d_TrustDeskModel_isWell_1 f_TrustDeskModel_224_13 ?_
                    have := mz_hi v25
                    refine mv_if_neZ (tgt := 11) (a := v25.toInt) d_TrustDeskModel_isWell_4 (by decide) rfl (fun b689 => absurd b689 (by omega)) (fun b689 => ?_)
                    refine mv_iconst (v := 1) d_TrustDeskModel_isWell_7 (by decide) ?_
                    refine mv_goto (tgt := 12) d_TrustDeskModel_isWell_8 (by decide) ?_
                    refine mv_iret d_TrustDeskModel_isWell_12 rfl (by decide) ?_
                    refine mv_if_eq_f (tgt := 144) d_TrustDeskModel_readRule_137 (by decide) (by decide) ?_
                    refine mv_aload_n d_TrustDeskModel_readRule_140 rfl rfl ?_
                    obtain ⟨_, b696, -⟩ := I674.1 _ _ t663
                    refine mv_callV (kc' := 0) (ks' := 0) (As := []) (st9 := [.ref o0]) d_TrustDeskModel_readRule_141 lV_TrustDeskModel_237 b696 rfl (tc_TrustDeskModel_next_x (d := (d + 23)) (x9 := x9) (o0 := o0) t663 R676 I674.start) rfl (Nat.le_of_ble_eq_true rfl) (Nat.le_of_ble_eq_true rfl) (Nat.le_of_ble_eq_true rfl) (hst := rfl) (fun b690r M691 n692 b690 => ?_)
                    obtain ⟨T693, J694, rfl, R697, f698, f699⟩ := b690
                    have I695 := I674.call J694 (tm_sub (by decide)) (Or.inl rfl)
                    have t700 := J694.up t663
                    have := (rv_c I674 J694 (I674.up h_o0) (k := 19) rfl)
                    have := (rv_c I674 J694 (I674.up h_o0) (k := 22) rfl)
                    have := (rv_c I674 J694 (I674.up h_o0) (k := 24) rfl)
                    have := ra_call I674 J694 (I674.up h_o0) (k := 5) rfl rfl rfl 44
                    have := ra_call I674 J694 (I674.up h_o0) (k := 6) rfl rfl rfl 44
                    have h702 : rv M673 o0 16 + 1 ≤ rv M673 o0 15 := (by have := R676.1 15 _ _ rfl; have := R676.1 16 _ _ rfl; have := R676.1 19 _ _ rfl; have := E680.f yS; omega)
                    have E701 : rE M0 M691 o0 0 2 := E680.next f698 f699 (rv_c I674 J694 (I674.up h_o0) (k := 19) rfl) (rE_ha I674 J694 (I674.up h_o0) (by decide)) (e := 1) h702 (by decide)
                    have := ra_call I674 J694 (I674.up h_o0) (k := 7) rfl rfl rfl ((880 + ra M0 o0 6 44).toNat)
                    have := ra_call I674 J694 (I674.up h_o0) (k := 10) rfl rfl rfl ((880 + ra M0 o0 6 44).toNat)
                    have := ra_call I674 J694 (I674.up h_o0) (k := 8) rfl rfl rfl ((880 + ra M0 o0 6 44).toNat)
                    have K703 : rK M0 M691 o0 ((880 + ra M0 o0 6 44).toNat) := K682.same (sA_c I674 J694 (I674.up h_o0) (by decide))
                    have K704 : nN M691 o0 := K683.same (sA_c I674 J694 (I674.up h_o0) (by decide)) (sF_c I674 J694 (I674.up h_o0) (by decide))
                    have q705 := J694.keep t663 (by decide) (K675 _ 13 6 _ q668)
                    have t706 := J694.up t669
                    have q707 := J694.keep t663 (by decide) (K675 _ 13 19 _ q670)
                    have q708 := J694.keep t663 (by decide) (K675 _ 13 8 _ q671)
                    have t709 := J694.up t664
                    refine mv_aload_n d_TrustDeskModel_readRule_144 rfl rfl ?_
                    refine mv_ldcSw (id := 25) (tx := "if") d_TrustDeskModel_readRule_145 (List.mem_of_getElem? (i := 15) rfl) ?_
                    obtain ⟨_, b716, -⟩ := I695.1 _ _ t700
                    refine mv_callV (kc' := 0) (ks' := 0) (As := [.ref 25]) (st9 := [.ref 25, .ref o0]) d_TrustDeskModel_readRule_148 lV_TrustDeskModel_329 b716 rfl (tc_TrustDeskModel_wantWord_s1_25_x (d := (d + 19)) (x9 := x9) (o0 := o0) t700 R697 E701.1 (by have := R697.1 15 _ _ rfl; have := R697.1 16 _ _ rfl; have := R697.1 19 _ _ rfl; have := E701.f yS; omega) I695.start) rfl (Nat.le_of_ble_eq_true rfl) (Nat.le_of_ble_eq_true rfl) (Nat.le_of_ble_eq_true rfl) (hst := rfl) (fun b710r M711 n712 b710 => ?_)
                    obtain ⟨T713, J714, rfl, R717, f718⟩ := b710
                    have I715 := I695.call J714 (tm_sub (by decide)) (Or.inl rfl)
                    have t719 := J714.up t700
                    have := (rv_c I695 J714 (I695.up h_o0) (k := 22) rfl)
                    have := (rv_c I695 J714 (I695.up h_o0) (k := 24) rfl)
                    have := ra_call I695 J714 (I695.up h_o0) (k := 5) rfl rfl rfl 44
                    have := ra_call I695 J714 (I695.up h_o0) (k := 6) rfl rfl rfl 44
                    have E720 : rE M0 M711 o0 0 3 := E701.trans f718 (by decide) (yR.2 5 _ _ rfl 44).1 (by decide) (by decide)
                    have := f718.w
                    have := f718.w2
                    have := ra_call I695 J714 (I695.up h_o0) (k := 7) rfl rfl rfl ((880 + ra M0 o0 6 44).toNat)
                    have := ra_call I695 J714 (I695.up h_o0) (k := 10) rfl rfl rfl ((880 + ra M0 o0 6 44).toNat)
                    have := ra_call I695 J714 (I695.up h_o0) (k := 8) rfl rfl rfl ((880 + ra M0 o0 6 44).toNat)
                    have K721 : rK M0 M711 o0 ((880 + ra M0 o0 6 44).toNat) := K703.same (sA_c I695 J714 (I695.up h_o0) (by decide))
                    have K722 : nN M711 o0 := K704.same (sA_c I695 J714 (I695.up h_o0) (by decide)) (sF_c I695 J714 (I695.up h_o0) (by decide))
                    have q723 := J714.keep t700 (by decide) q705
                    have t724 := J714.up t706
                    have q725 := J714.keep t700 (by decide) q708
                    have t726 := J714.up t709
                    refine mv_aload_n d_TrustDeskModel_readRule_151 rfl rfl ?_
                    obtain ⟨a728, q727, t_a728⟩ := tm_atR I715 t719 (k := 11) rfl
                    refine tr_getK q727 d_TrustDeskModel_readRule_152 f_TrustDeskModel_38_13 ?_
                    refine mv_iload_n d_TrustDeskModel_readRule_155 rfl rfl ?_
                    refine mv_aload_n d_TrustDeskModel_readRule_156 rfl rfl ?_
                    obtain ⟨a730, q729, t_a730⟩ := tm_atR I715 t719 (k := 5) rfl
                    refine tr_getK q729 d_TrustDeskModel_readRule_157 f_TrustDeskModel_20_13 ?_
                    refine mv_bipush (v := 44) d_TrustDeskModel_readRule_160 (by decide) ?_
                    refine tr_ialdR (o := o0) (k := 5) I715 q729 t_a730 (by decide) d_TrustDeskModel_readRule_162 (by unfold vp_in; decide) (fun v731 e732 => ?_)
                    have := R717.a (k := 5) rfl (44 : Int32).toNatClampNeg
                    have : v731.toInt = ra M711 o0 5 44 := e732
                    refine tr_iastR (k := 11) I715 R717 (I715.up h_o0) q727 t_a728 (by decide) (by decide) (fun lo hi h => by cases h; have := R717.1 15 _ _ rfl; have := R717.1 16 _ _ rfl; have := R717.1 19 _ _ rfl; have := E720.f yS; exact ⟨by show (0 : Int) ≤ v731.toInt; omega, by show v731.toInt ≤ (400 : Int); omega⟩) (Or.inl (by decide)) d_TrustDeskModel_readRule_163 (vp_in_iff.mpr (by have := R717.1 15 _ _ rfl; have := R717.1 16 _ _ rfl; have := R717.1 19 _ _ rfl; have := E720.f yS; omega)) (fun M733 I734 K735 R736 E737 A738 V739 => ?_)
                    have := V739 15
                    have := V739 16
                    have := V739 17
                    have := V739 19
                    have := V739 22
                    have := V739 24
                    have := A738 5 (by decide) rfl 44
                    have := A738 6 (by decide) rfl 44
                    have E740 : rE M0 M733 o0 0 3 := E720.same (fun k _ _ => V739 k) (fun k h1 h2 => A738 k (by omega) (by rcases (show k = 4 ∨ k = 5 by omega) with rfl | rfl <;> rfl))
                    have := A738 7 (by decide) rfl ((880 + ra M0 o0 6 44).toNat)
                    have := A738 10 (by decide) rfl ((880 + ra M0 o0 6 44).toNat)
                    have := A738 8 (by decide) rfl ((880 + ra M0 o0 6 44).toNat)
                    have h741 : (880 + ra M0 o0 6 44).toNat = v34.toNatClampNeg := by have := mz_nat9 (i := v34) (by have := R717.1 15 _ _ rfl; have := R717.1 16 _ _ rfl; have := R717.1 19 _ _ rfl; have := E720.f yS; omega); have := R717.1 15 _ _ rfl; have := R717.1 16 _ _ rfl; have := R717.1 19 _ _ rfl; have := E720.f yS; omega
                    have : ra M733 o0 11 ((880 + ra M0 o0 6 44).toNat) = v731.toInt := (E737 _).trans (if_pos h741)
                    have K742 : rK M0 M733 o0 ((880 + ra M0 o0 6 44).toNat) := K721.st A738 E737 (by have := mz_nat9 (i := v34) (by have := R717.1 15 _ _ rfl; have := R717.1 16 _ _ rfl; have := R717.1 19 _ _ rfl; have := E720.f yS; omega); have := R717.1 15 _ _ rfl; have := R717.1 16 _ _ rfl; have := R717.1 19 _ _ rfl; have := E720.f yS; omega)
                    have K743 : nN M733 o0 := K722.same (sA_a A738 (by decide)) (sF_a V739)
                    have F744 : rE M733 M733 o0 0 0 := rE.rf E740.1
                    refine mv_aload_n d_TrustDeskModel_readRule_164 rfl rfl ?_
                    obtain ⟨_, b751, -⟩ := I734.1 _ _ t719
                    refine mv_callV (kc' := 0) (ks' := 0) (As := []) (st9 := [.ref o0]) d_TrustDeskModel_readRule_165 lV_TrustDeskModel_302 b751 rfl (tc_TrustDeskModel_cond_q5_x (d := d) (x9 := x9) (o0 := o0) t719 R736 E740.1 (by have := R736.1 15 _ _ rfl; have := R736.1 16 _ _ rfl; have := R736.1 19 _ _ rfl; have := E740.f yS; omega) (by have := R736.1 15 _ _ rfl; have := R736.1 16 _ _ rfl; have := R736.1 19 _ _ rfl; have := E740.f yS; omega) I734.start) rfl (Nat.le_of_ble_eq_true rfl) (Nat.le_of_ble_eq_true rfl) (Nat.le_of_ble_eq_true rfl) (hst := rfl) (fun b745r M746 n747 b745 => ?_)
                    obtain ⟨T748, J749, rfl, R752, f753, f754⟩ := b745
                    have I750 := I734.call J749 (tm_sub (by decide)) (Or.inl rfl)
                    have t755 := J749.up t719
                    have := (rv_c I734 J749 (I734.up h_o0) (k := 24) rfl)
                    have := ra_call I734 J749 (I734.up h_o0) (k := 6) rfl rfl rfl 44
                    have E756 : rE M0 M746 o0 1 3 := E740.trans f753 (by decide) (yR.2 5 _ _ rfl 44).1 (by decide) (by decide)
                    have := f753.w
                    have := f753.w2
                    have := ra_call I734 J749 (I734.up h_o0) (k := 7) rfl rfl rfl ((880 + ra M0 o0 6 44).toNat)
                    have := ra_call I734 J749 (I734.up h_o0) (k := 10) rfl rfl rfl ((880 + ra M0 o0 6 44).toNat)
                    have := ra_call I734 J749 (I734.up h_o0) (k := 8) rfl rfl rfl ((880 + ra M0 o0 6 44).toNat)
                    have := ra_call I734 J749 (I734.up h_o0) (k := 11) rfl rfl rfl ((880 + ra M0 o0 6 44).toNat)
                    have K757 : rK M0 M746 o0 ((880 + ra M0 o0 6 44).toNat) := K742.same (sA_c I734 J749 (I734.up h_o0) (by decide))
                    have K758 : nN M746 o0 := K743.same (sA_c I734 J749 (I734.up h_o0) (by decide)) (sF_c I734 J749 (I734.up h_o0) (by decide))
                    have F759 : rE M733 M746 o0 1 0 := F744.trans f753 (by decide) (R736.2 5 _ _ rfl 44).1 (by decide) (by decide)
                    have q760 := J749.keep t719 (by decide) (K735 _ 13 6 _ q723)
                    have t761 := J749.up t724
                    have q762 := J749.keep t719 (by decide) (K735 _ 13 8 _ q725)
                    have t763 := J749.up t726
                    have q764 := J749.keep t719 (by decide) (K735 _ 13 11 _ q727)
                    have t765 := J749.up t_a728
                    have q766 := J749.keep t719 (by decide) (K735 _ 13 5 _ q729)
                    have t767 := J749.up t_a730
                    refine mv_goto (tgt := 251) d_TrustDeskModel_readRule_168 (by decide) ?_
                    refine mv_aload_n d_TrustDeskModel_readRule_251 rfl rfl ?_
                    refine mv_bipush (v := 59) d_TrustDeskModel_readRule_252 (by decide) ?_
                    obtain ⟨_, b774, -⟩ := I750.1 _ _ t755
                    have : (59 : Int32).toInt = 59 := by decide
                    refine mv_callV (kc' := 0) (ks' := 0) (As := [.int 59]) (st9 := [.int 59, .ref o0]) d_TrustDeskModel_readRule_254 lV_TrustDeskModel_291 b774 rfl (tc_TrustDeskModel_wantSign_x (d := (d + 22)) (x9 := x9) (o0 := o0) (x1 := 59) t755 R752 E756.1 (by have := R752.1 15 _ _ rfl; have := R752.1 16 _ _ rfl; have := R752.1 19 _ _ rfl; have := E756.f yS; omega) I750.start) rfl (Nat.le_of_ble_eq_true rfl) (Nat.le_of_ble_eq_true rfl) (Nat.le_of_ble_eq_true rfl) (hst := rfl) (fun b768r M769 n770 b768 => ?_)
                    obtain ⟨T771, J772, rfl, R775, f776⟩ := b768
                    have I773 := I750.call J772 (tm_sub (by decide)) (Or.inl rfl)
                    have t777 := J772.up t755
                    have := (rv_c I750 J772 (I750.up h_o0) (k := 22) rfl)
                    have := (rv_c I750 J772 (I750.up h_o0) (k := 24) rfl)
                    have := ra_call I750 J772 (I750.up h_o0) (k := 5) rfl rfl rfl 44
                    have := ra_call I750 J772 (I750.up h_o0) (k := 6) rfl rfl rfl 44
                    have E778 : rE M0 M769 o0 1 4 := E756.trans f776 (by decide) (yR.2 5 _ _ rfl 44).1 (by decide) (by decide)
                    have := f776.w
                    have := f776.w2
                    have := ra_call I750 J772 (I750.up h_o0) (k := 7) rfl rfl rfl ((880 + ra M0 o0 6 44).toNat)
                    have := ra_call I750 J772 (I750.up h_o0) (k := 10) rfl rfl rfl ((880 + ra M0 o0 6 44).toNat)
                    have := ra_call I750 J772 (I750.up h_o0) (k := 8) rfl rfl rfl ((880 + ra M0 o0 6 44).toNat)
                    have := ra_call I750 J772 (I750.up h_o0) (k := 11) rfl rfl rfl ((880 + ra M0 o0 6 44).toNat)
                    have K779 : rK M0 M769 o0 ((880 + ra M0 o0 6 44).toNat) := K757.same (sA_c I750 J772 (I750.up h_o0) (by decide))
                    have K780 : nN M769 o0 := K758.same (sA_c I750 J772 (I750.up h_o0) (by decide)) (sF_c I750 J772 (I750.up h_o0) (by decide))
                    have F781 : rE M733 M769 o0 1 1 := F759.trans f776 (by decide) (R736.2 5 _ _ rfl 44).1 (by decide) (by decide)
                    have q782 := J772.keep t755 (by decide) q760
                    have t783 := J772.up t761
                    have q784 := J772.keep t755 (by decide) q762
                    have t785 := J772.up t763
                    have q786 := J772.keep t755 (by decide) q764
                    have t787 := J772.up t765
                    have q788 := J772.keep t755 (by decide) q766
                    have t789 := J772.up t767
                    refine mv_aload_n d_TrustDeskModel_readRule_257 rfl rfl ?_
                    obtain ⟨a791, q790, t_a791⟩ := tm_atR I773 t777 (k := 12) rfl
                    refine tr_getK q790 d_TrustDeskModel_readRule_258 f_TrustDeskModel_41_13 ?_
                    refine mv_iload_n d_TrustDeskModel_readRule_261 rfl rfl ?_
                    refine mv_aload_n d_TrustDeskModel_readRule_262 rfl rfl ?_
                    refine tr_getK (k := 5) q788 d_TrustDeskModel_readRule_263 f_TrustDeskModel_20_13 ?_
                    refine mv_bipush (v := 44) d_TrustDeskModel_readRule_266 (by decide) ?_
                    refine tr_ialdR (o := o0) (k := 5) I773 q788 t789 (by decide) d_TrustDeskModel_readRule_268 (by unfold vp_in; decide) (fun v792 e793 => ?_)
                    have := R775.a (k := 5) rfl (44 : Int32).toNatClampNeg
                    have : v792.toInt = ra M769 o0 5 44 := e793
                    refine tr_iastR (k := 12) I773 R775 (I773.up h_o0) q790 t_a791 (by decide) (by decide) (fun lo hi h => by cases h; have := R775.1 15 _ _ rfl; have := R775.1 16 _ _ rfl; have := R775.1 19 _ _ rfl; have := E778.f yS; exact ⟨by show (0 : Int) ≤ v792.toInt; omega, by show v792.toInt ≤ (400 : Int); omega⟩) (Or.inl (by decide)) d_TrustDeskModel_readRule_269 (vp_in_iff.mpr (by have := R775.1 15 _ _ rfl; have := R775.1 16 _ _ rfl; have := R775.1 19 _ _ rfl; have := E778.f yS; omega)) (fun M794 I795 K796 R797 E798 A799 V800 => ?_)
                    have := V800 15
                    have := V800 16
                    have := V800 17
                    have := V800 19
                    have := V800 22
                    have := V800 24
                    have := A799 5 (by decide) rfl 44
                    have := A799 6 (by decide) rfl 44
                    have E801 : rE M0 M794 o0 1 4 := E778.same (fun k _ _ => V800 k) (fun k h1 h2 => A799 k (by omega) (by rcases (show k = 4 ∨ k = 5 by omega) with rfl | rfl <;> rfl))
                    have := A799 7 (by decide) rfl ((880 + ra M0 o0 6 44).toNat)
                    have := A799 10 (by decide) rfl ((880 + ra M0 o0 6 44).toNat)
                    have := A799 8 (by decide) rfl ((880 + ra M0 o0 6 44).toNat)
                    have := A799 11 (by decide) rfl ((880 + ra M0 o0 6 44).toNat)
                    have h802 : (880 + ra M0 o0 6 44).toNat = v34.toNatClampNeg := by have := mz_nat9 (i := v34) (by have := R775.1 15 _ _ rfl; have := R775.1 16 _ _ rfl; have := R775.1 19 _ _ rfl; have := E778.f yS; omega); have := R775.1 15 _ _ rfl; have := R775.1 16 _ _ rfl; have := R775.1 19 _ _ rfl; have := E778.f yS; omega
                    have : ra M794 o0 12 ((880 + ra M0 o0 6 44).toNat) = v792.toInt := (E798 _).trans (if_pos h802)
                    have K803 : rK M0 M794 o0 ((880 + ra M0 o0 6 44).toNat) := K779.st A799 E798 (by have := mz_nat9 (i := v34) (by have := R775.1 15 _ _ rfl; have := R775.1 16 _ _ rfl; have := R775.1 19 _ _ rfl; have := E778.f yS; omega); have := R775.1 15 _ _ rfl; have := R775.1 16 _ _ rfl; have := R775.1 19 _ _ rfl; have := E778.f yS; omega)
                    have K804 : nN M794 o0 := K780.same (sA_a A799 (by decide)) (sF_a V800)
                    have F805 : rE M733 M794 o0 1 1 := F781.same (fun k _ _ => V800 k) (fun k h1 h2 => A799 k (by omega) (by rcases (show k = 4 ∨ k = 5 by omega) with rfl | rfl <;> rfl))
                    exact mv_vret d_TrustDeskModel_readRule_270 rfl ⟨_, I795, rfl, R797, (rW.of E801.1 (fun w9 => (by have := R797.1 15 _ _ rfl; have := R797.1 16 _ _ rfl; have := R797.1 19 _ _ rfl; have := E801.f yS; omega)) (fun w9 => rG.step yG yR E801 w9 K803 (by have := yR.2 6 _ _ rfl 44; omega) (by have := R797.1 15 _ _ rfl; have := R797.1 16 _ _ rfl; have := R797.1 19 _ _ rfl; have := E801.f yS; omega) (by have := R797.1 15 _ _ rfl; have := R797.1 16 _ _ rfl; have := R797.1 19 _ _ rfl; have := E801.f yS; omega) (fun _ => rowN.of E740 F805 w9 (by decide) (by decide) (yR.2 5 _ _ rfl 44).1 (by have := R797.1 15 _ _ rfl; have := R797.1 16 _ _ rfl; have := R797.1 19 _ _ rfl; have := E801.f yS; omega) (by have := R797.1 15 _ _ rfl; have := R797.1 16 _ _ rfl; have := R797.1 19 _ _ rfl; have := E801.f yS; omega) (by have := R797.1 15 _ _ rfl; have := R797.1 16 _ _ rfl; have := R797.1 19 _ _ rfl; have := E801.f yS; omega)) (fun h9 => (by have := R797.1 15 _ _ rfl; have := R797.1 16 _ _ rfl; have := R797.1 19 _ _ rfl; have := E801.f yS; omega)) (by have := R797.1 15 _ _ rfl; have := R797.1 16 _ _ rfl; have := R797.1 19 _ _ rfl; have := E801.f yS; omega) K804)), (rO.of E801 K803 (by have := yR.2 6 _ _ rfl 44; omega)), (by have := R797.1 15 _ _ rfl; have := R797.1 16 _ _ rfl; have := R797.1 19 _ _ rfl; have := E801.f yS; omega), (by have := R797.1 15 _ _ rfl; have := R797.1 16 _ _ rfl; have := R797.1 19 _ _ rfl; have := E801.f yS; omega)⟩
                  · refine mv_aload_n d_TrustDeskModel_readRule_128 rfl rfl ?_
                    refine mv_iconst (v := 1) d_TrustDeskModel_readRule_129 (by decide) ?_
                    obtain ⟨_, b812, -⟩ := I674.1 _ _ t663
                    have : (1 : Int32).toInt = 1 := by decide
                    refine mv_callV (kc' := 0) (ks' := 0) (As := [.int 1]) (st9 := [.int 1, .ref o0]) d_TrustDeskModel_readRule_130 lV_TrustDeskModel_240 b812 rfl (tc_TrustDeskModel_fails_x (d := (d + 24)) (x9 := x9) (o0 := o0) (x1 := 1) t663 R676 (by decide) I674.start) rfl (Nat.le_of_ble_eq_true rfl) (Nat.le_of_ble_eq_true rfl) (Nat.le_of_ble_eq_true rfl) (hst := rfl) (fun b806r M807 n808 b806 => ?_)
                    obtain ⟨T809, J810, rfl, R813, f814⟩ := b806
                    have I811 := I674.call J810 (tm_sub (by decide)) (Or.inl rfl)
                    have t815 := J810.up t663
                    have := (rv_c I674 J810 (I674.up h_o0) (k := 15) rfl)
                    have := (rv_c I674 J810 (I674.up h_o0) (k := 16) rfl)
                    have := (rv_c I674 J810 (I674.up h_o0) (k := 17) rfl)
                    have := (rv_c I674 J810 (I674.up h_o0) (k := 22) rfl)
                    have := (rv_c I674 J810 (I674.up h_o0) (k := 24) rfl)
                    have := ra_call I674 J810 (I674.up h_o0) (k := 5) rfl rfl rfl 44
                    have := ra_call I674 J810 (I674.up h_o0) (k := 6) rfl rfl rfl 44
                    have E816 : rE M0 M807 o0 0 1 := E680.fails (rE_hv I674 J810 (I674.up h_o0) 15 18 (by decide)) (rE_ha I674 J810 (I674.up h_o0) (by decide)) f814 0 1
                    have := ra_call I674 J810 (I674.up h_o0) (k := 7) rfl rfl rfl ((880 + ra M0 o0 6 44).toNat)
                    have := ra_call I674 J810 (I674.up h_o0) (k := 10) rfl rfl rfl ((880 + ra M0 o0 6 44).toNat)
                    have := ra_call I674 J810 (I674.up h_o0) (k := 8) rfl rfl rfl ((880 + ra M0 o0 6 44).toNat)
                    have K817 : rK M0 M807 o0 ((880 + ra M0 o0 6 44).toNat) := K682.same (sA_c I674 J810 (I674.up h_o0) (by decide))
                    have K818 : nN M807 o0 := K683.same (sA_c I674 J810 (I674.up h_o0) (by decide)) (sF_c I674 J810 (I674.up h_o0) (by decide))
                    have q819 := J810.keep t663 (by decide) (K675 _ 13 6 _ q668)
                    have t820 := J810.up t669
                    have q821 := J810.keep t663 (by decide) (K675 _ 13 8 _ q671)
                    have t822 := J810.up t664
                    refine mv_aload_n d_TrustDeskModel_readRule_133 rfl rfl ?_
                    obtain ⟨_, b823, -⟩ := I811.1 _ _ t815
                    refine mv_callV (kc1 := 0) (ks1 := 0) (kc' := 0) (ks' := 0) (As := []) (st9 := [.ref o0]) d_TrustDeskModel_readRule_134 lV_TrustDeskModel_230 b823 rfl (mj_enter (by decide) (Nat.le_of_ble_eq_true rfl) ?_) rfl (Nat.le_of_ble_eq_true rfl) (Nat.le_of_ble_eq_true rfl) (Nat.le_of_ble_eq_true rfl) (hst := rfl) (fun _ _ _ h => h)
                    refine mv_aload_n d_TrustDeskModel_isWell_0 rfl rfl ?_
                    obtain ⟨v825, q824⟩ := tm_atI I811 t815 (k := 19) rfl
                    refine tr_getK q824 d_TrustDeskModel_isWell_1 f_TrustDeskModel_224_13 ?_
                    have := R813.f (k := 19) q824 rfl
                    have := tm_rv q824
                    refine mv_if_neZ (tgt := 11) (a := v825.toInt) d_TrustDeskModel_isWell_4 (by decide) rfl (fun b826 => ?_) (fun b826 => ?_)
                    · refine mv_iconst (v := 0) d_TrustDeskModel_isWell_11 (by decide) ?_
                      refine mv_iret d_TrustDeskModel_isWell_12 rfl (by decide) ?_
                      refine mv_if_eq_t (tgt := 144) d_TrustDeskModel_readRule_137 (by decide) (by decide) ?_
                      refine mv_aload_n d_TrustDeskModel_readRule_144 rfl rfl ?_
                      refine mv_ldcSw (id := 25) (tx := "if") d_TrustDeskModel_readRule_145 (List.mem_of_getElem? (i := 15) rfl) ?_
                      obtain ⟨_, b833, -⟩ := I811.1 _ _ t815
                      refine mv_callV (kc' := 0) (ks' := 0) (As := [.ref 25]) (st9 := [.ref 25, .ref o0]) d_TrustDeskModel_readRule_148 lV_TrustDeskModel_329 b833 rfl (tc_TrustDeskModel_wantWord_s1_25_x (d := (d + 19)) (x9 := x9) (o0 := o0) t815 R813 E816.1 (by have := R813.1 15 _ _ rfl; have := R813.1 16 _ _ rfl; have := R813.1 19 _ _ rfl; have := E816.f yS; omega) I811.start) rfl (Nat.le_of_ble_eq_true rfl) (Nat.le_of_ble_eq_true rfl) (Nat.le_of_ble_eq_true rfl) (hst := rfl) (fun b827r M828 n829 b827 => ?_)
                      obtain ⟨T830, J831, rfl, R834, f835⟩ := b827
                      have I832 := I811.call J831 (tm_sub (by decide)) (Or.inl rfl)
                      have t836 := J831.up t815
                      have := (rv_c I811 J831 (I811.up h_o0) (k := 22) rfl)
                      have := (rv_c I811 J831 (I811.up h_o0) (k := 24) rfl)
                      have := ra_call I811 J831 (I811.up h_o0) (k := 5) rfl rfl rfl 44
                      have := ra_call I811 J831 (I811.up h_o0) (k := 6) rfl rfl rfl 44
                      have E837 : rE M0 M828 o0 0 2 := E816.trans f835 (by decide) (yR.2 5 _ _ rfl 44).1 (by decide) (by decide)
                      have := f835.w
                      have := f835.w2
                      have := ra_call I811 J831 (I811.up h_o0) (k := 7) rfl rfl rfl ((880 + ra M0 o0 6 44).toNat)
                      have := ra_call I811 J831 (I811.up h_o0) (k := 10) rfl rfl rfl ((880 + ra M0 o0 6 44).toNat)
                      have := ra_call I811 J831 (I811.up h_o0) (k := 8) rfl rfl rfl ((880 + ra M0 o0 6 44).toNat)
                      have K838 : rK M0 M828 o0 ((880 + ra M0 o0 6 44).toNat) := K817.same (sA_c I811 J831 (I811.up h_o0) (by decide))
                      have K839 : nN M828 o0 := K818.same (sA_c I811 J831 (I811.up h_o0) (by decide)) (sF_c I811 J831 (I811.up h_o0) (by decide))
                      have q840 := J831.keep t815 (by decide) q819
                      have t841 := J831.up t820
                      have q842 := J831.keep t815 (by decide) q821
                      have t843 := J831.up t822
                      refine mv_aload_n d_TrustDeskModel_readRule_151 rfl rfl ?_
                      obtain ⟨a845, q844, t_a845⟩ := tm_atR I832 t836 (k := 11) rfl
                      refine tr_getK q844 d_TrustDeskModel_readRule_152 f_TrustDeskModel_38_13 ?_
                      refine mv_iload_n d_TrustDeskModel_readRule_155 rfl rfl ?_
                      refine mv_aload_n d_TrustDeskModel_readRule_156 rfl rfl ?_
                      obtain ⟨a847, q846, t_a847⟩ := tm_atR I832 t836 (k := 5) rfl
                      refine tr_getK q846 d_TrustDeskModel_readRule_157 f_TrustDeskModel_20_13 ?_
                      refine mv_bipush (v := 44) d_TrustDeskModel_readRule_160 (by decide) ?_
                      refine tr_ialdR (o := o0) (k := 5) I832 q846 t_a847 (by decide) d_TrustDeskModel_readRule_162 (by unfold vp_in; decide) (fun v848 e849 => ?_)
                      have := R834.a (k := 5) rfl (44 : Int32).toNatClampNeg
                      have : v848.toInt = ra M828 o0 5 44 := e849
                      refine tr_iastR (k := 11) I832 R834 (I832.up h_o0) q844 t_a845 (by decide) (by decide) (fun lo hi h => by cases h; have := R834.1 15 _ _ rfl; have := R834.1 16 _ _ rfl; have := R834.1 19 _ _ rfl; have := E837.f yS; exact ⟨by show (0 : Int) ≤ v848.toInt; omega, by show v848.toInt ≤ (400 : Int); omega⟩) (Or.inl (by decide)) d_TrustDeskModel_readRule_163 (vp_in_iff.mpr (by have := R834.1 15 _ _ rfl; have := R834.1 16 _ _ rfl; have := R834.1 19 _ _ rfl; have := E837.f yS; omega)) (fun M850 I851 K852 R853 E854 A855 V856 => ?_)
                      have := V856 15
                      have := V856 16
                      have := V856 17
                      have := V856 19
                      have := V856 22
                      have := V856 24
                      have := A855 5 (by decide) rfl 44
                      have := A855 6 (by decide) rfl 44
                      have E857 : rE M0 M850 o0 0 2 := E837.same (fun k _ _ => V856 k) (fun k h1 h2 => A855 k (by omega) (by rcases (show k = 4 ∨ k = 5 by omega) with rfl | rfl <;> rfl))
                      have := A855 7 (by decide) rfl ((880 + ra M0 o0 6 44).toNat)
                      have := A855 10 (by decide) rfl ((880 + ra M0 o0 6 44).toNat)
                      have := A855 8 (by decide) rfl ((880 + ra M0 o0 6 44).toNat)
                      have h858 : (880 + ra M0 o0 6 44).toNat = v34.toNatClampNeg := by have := mz_nat9 (i := v34) (by have := R834.1 15 _ _ rfl; have := R834.1 16 _ _ rfl; have := R834.1 19 _ _ rfl; have := E837.f yS; omega); have := R834.1 15 _ _ rfl; have := R834.1 16 _ _ rfl; have := R834.1 19 _ _ rfl; have := E837.f yS; omega
                      have : ra M850 o0 11 ((880 + ra M0 o0 6 44).toNat) = v848.toInt := (E854 _).trans (if_pos h858)
                      have K859 : rK M0 M850 o0 ((880 + ra M0 o0 6 44).toNat) := K838.st A855 E854 (by have := mz_nat9 (i := v34) (by have := R834.1 15 _ _ rfl; have := R834.1 16 _ _ rfl; have := R834.1 19 _ _ rfl; have := E837.f yS; omega); have := R834.1 15 _ _ rfl; have := R834.1 16 _ _ rfl; have := R834.1 19 _ _ rfl; have := E837.f yS; omega)
                      have K860 : nN M850 o0 := K839.same (sA_a A855 (by decide)) (sF_a V856)
                      have F861 : rE M850 M850 o0 0 0 := rE.rf E857.1
                      refine mv_aload_n d_TrustDeskModel_readRule_164 rfl rfl ?_
                      obtain ⟨_, b868, -⟩ := I851.1 _ _ t836
                      refine mv_callV (kc' := 0) (ks' := 0) (As := []) (st9 := [.ref o0]) d_TrustDeskModel_readRule_165 lV_TrustDeskModel_302 b868 rfl (tc_TrustDeskModel_cond_q5_x (d := d) (x9 := x9) (o0 := o0) t836 R853 E857.1 (by have := R853.1 15 _ _ rfl; have := R853.1 16 _ _ rfl; have := R853.1 19 _ _ rfl; have := E857.f yS; omega) (by have := R853.1 15 _ _ rfl; have := R853.1 16 _ _ rfl; have := R853.1 19 _ _ rfl; have := E857.f yS; omega) I851.start) rfl (Nat.le_of_ble_eq_true rfl) (Nat.le_of_ble_eq_true rfl) (Nat.le_of_ble_eq_true rfl) (hst := rfl) (fun b862r M863 n864 b862 => ?_)
                      obtain ⟨T865, J866, rfl, R869, f870, f871⟩ := b862
                      have I867 := I851.call J866 (tm_sub (by decide)) (Or.inl rfl)
                      have t872 := J866.up t836
                      have := (rv_c I851 J866 (I851.up h_o0) (k := 24) rfl)
                      have := ra_call I851 J866 (I851.up h_o0) (k := 6) rfl rfl rfl 44
                      have E873 : rE M0 M863 o0 1 2 := E857.trans f870 (by decide) (yR.2 5 _ _ rfl 44).1 (by decide) (by decide)
                      have := f870.w
                      have := f870.w2
                      have := ra_call I851 J866 (I851.up h_o0) (k := 7) rfl rfl rfl ((880 + ra M0 o0 6 44).toNat)
                      have := ra_call I851 J866 (I851.up h_o0) (k := 10) rfl rfl rfl ((880 + ra M0 o0 6 44).toNat)
                      have := ra_call I851 J866 (I851.up h_o0) (k := 8) rfl rfl rfl ((880 + ra M0 o0 6 44).toNat)
                      have := ra_call I851 J866 (I851.up h_o0) (k := 11) rfl rfl rfl ((880 + ra M0 o0 6 44).toNat)
                      have K874 : rK M0 M863 o0 ((880 + ra M0 o0 6 44).toNat) := K859.same (sA_c I851 J866 (I851.up h_o0) (by decide))
                      have K875 : nN M863 o0 := K860.same (sA_c I851 J866 (I851.up h_o0) (by decide)) (sF_c I851 J866 (I851.up h_o0) (by decide))
                      have F876 : rE M850 M863 o0 1 0 := F861.trans f870 (by decide) (R853.2 5 _ _ rfl 44).1 (by decide) (by decide)
                      have q877 := J866.keep t836 (by decide) (K852 _ 13 6 _ q840)
                      have t878 := J866.up t841
                      have q879 := J866.keep t836 (by decide) (K852 _ 13 8 _ q842)
                      have t880 := J866.up t843
                      have q881 := J866.keep t836 (by decide) (K852 _ 13 11 _ q844)
                      have t882 := J866.up t_a845
                      have q883 := J866.keep t836 (by decide) (K852 _ 13 5 _ q846)
                      have t884 := J866.up t_a847
                      refine mv_goto (tgt := 251) d_TrustDeskModel_readRule_168 (by decide) ?_
                      refine mv_aload_n d_TrustDeskModel_readRule_251 rfl rfl ?_
                      refine mv_bipush (v := 59) d_TrustDeskModel_readRule_252 (by decide) ?_
                      obtain ⟨_, b891, -⟩ := I867.1 _ _ t872
                      have : (59 : Int32).toInt = 59 := by decide
                      refine mv_callV (kc' := 0) (ks' := 0) (As := [.int 59]) (st9 := [.int 59, .ref o0]) d_TrustDeskModel_readRule_254 lV_TrustDeskModel_291 b891 rfl (tc_TrustDeskModel_wantSign_x (d := (d + 22)) (x9 := x9) (o0 := o0) (x1 := 59) t872 R869 E873.1 (by have := R869.1 15 _ _ rfl; have := R869.1 16 _ _ rfl; have := R869.1 19 _ _ rfl; have := E873.f yS; omega) I867.start) rfl (Nat.le_of_ble_eq_true rfl) (Nat.le_of_ble_eq_true rfl) (Nat.le_of_ble_eq_true rfl) (hst := rfl) (fun b885r M886 n887 b885 => ?_)
                      obtain ⟨T888, J889, rfl, R892, f893⟩ := b885
                      have I890 := I867.call J889 (tm_sub (by decide)) (Or.inl rfl)
                      have t894 := J889.up t872
                      have := (rv_c I867 J889 (I867.up h_o0) (k := 22) rfl)
                      have := (rv_c I867 J889 (I867.up h_o0) (k := 24) rfl)
                      have := ra_call I867 J889 (I867.up h_o0) (k := 5) rfl rfl rfl 44
                      have := ra_call I867 J889 (I867.up h_o0) (k := 6) rfl rfl rfl 44
                      have E895 : rE M0 M886 o0 1 3 := E873.trans f893 (by decide) (yR.2 5 _ _ rfl 44).1 (by decide) (by decide)
                      have := f893.w
                      have := f893.w2
                      have := ra_call I867 J889 (I867.up h_o0) (k := 7) rfl rfl rfl ((880 + ra M0 o0 6 44).toNat)
                      have := ra_call I867 J889 (I867.up h_o0) (k := 10) rfl rfl rfl ((880 + ra M0 o0 6 44).toNat)
                      have := ra_call I867 J889 (I867.up h_o0) (k := 8) rfl rfl rfl ((880 + ra M0 o0 6 44).toNat)
                      have := ra_call I867 J889 (I867.up h_o0) (k := 11) rfl rfl rfl ((880 + ra M0 o0 6 44).toNat)
                      have K896 : rK M0 M886 o0 ((880 + ra M0 o0 6 44).toNat) := K874.same (sA_c I867 J889 (I867.up h_o0) (by decide))
                      have K897 : nN M886 o0 := K875.same (sA_c I867 J889 (I867.up h_o0) (by decide)) (sF_c I867 J889 (I867.up h_o0) (by decide))
                      have F898 : rE M850 M886 o0 1 1 := F876.trans f893 (by decide) (R853.2 5 _ _ rfl 44).1 (by decide) (by decide)
                      have q899 := J889.keep t872 (by decide) q877
                      have t900 := J889.up t878
                      have q901 := J889.keep t872 (by decide) q879
                      have t902 := J889.up t880
                      have q903 := J889.keep t872 (by decide) q881
                      have t904 := J889.up t882
                      have q905 := J889.keep t872 (by decide) q883
                      have t906 := J889.up t884
                      refine mv_aload_n d_TrustDeskModel_readRule_257 rfl rfl ?_
                      obtain ⟨a908, q907, t_a908⟩ := tm_atR I890 t894 (k := 12) rfl
                      refine tr_getK q907 d_TrustDeskModel_readRule_258 f_TrustDeskModel_41_13 ?_
                      refine mv_iload_n d_TrustDeskModel_readRule_261 rfl rfl ?_
                      refine mv_aload_n d_TrustDeskModel_readRule_262 rfl rfl ?_
                      refine tr_getK (k := 5) q905 d_TrustDeskModel_readRule_263 f_TrustDeskModel_20_13 ?_
                      refine mv_bipush (v := 44) d_TrustDeskModel_readRule_266 (by decide) ?_
                      refine tr_ialdR (o := o0) (k := 5) I890 q905 t906 (by decide) d_TrustDeskModel_readRule_268 (by unfold vp_in; decide) (fun v909 e910 => ?_)
                      have := R892.a (k := 5) rfl (44 : Int32).toNatClampNeg
                      have : v909.toInt = ra M886 o0 5 44 := e910
                      refine tr_iastR (k := 12) I890 R892 (I890.up h_o0) q907 t_a908 (by decide) (by decide) (fun lo hi h => by cases h; have := R892.1 15 _ _ rfl; have := R892.1 16 _ _ rfl; have := R892.1 19 _ _ rfl; have := E895.f yS; exact ⟨by show (0 : Int) ≤ v909.toInt; omega, by show v909.toInt ≤ (400 : Int); omega⟩) (Or.inl (by decide)) d_TrustDeskModel_readRule_269 (vp_in_iff.mpr (by have := R892.1 15 _ _ rfl; have := R892.1 16 _ _ rfl; have := R892.1 19 _ _ rfl; have := E895.f yS; omega)) (fun M911 I912 K913 R914 E915 A916 V917 => ?_)
                      have := V917 15
                      have := V917 16
                      have := V917 17
                      have := V917 19
                      have := V917 22
                      have := V917 24
                      have := A916 5 (by decide) rfl 44
                      have := A916 6 (by decide) rfl 44
                      have E918 : rE M0 M911 o0 1 3 := E895.same (fun k _ _ => V917 k) (fun k h1 h2 => A916 k (by omega) (by rcases (show k = 4 ∨ k = 5 by omega) with rfl | rfl <;> rfl))
                      have := A916 7 (by decide) rfl ((880 + ra M0 o0 6 44).toNat)
                      have := A916 10 (by decide) rfl ((880 + ra M0 o0 6 44).toNat)
                      have := A916 8 (by decide) rfl ((880 + ra M0 o0 6 44).toNat)
                      have := A916 11 (by decide) rfl ((880 + ra M0 o0 6 44).toNat)
                      have h919 : (880 + ra M0 o0 6 44).toNat = v34.toNatClampNeg := by have := mz_nat9 (i := v34) (by have := R892.1 15 _ _ rfl; have := R892.1 16 _ _ rfl; have := R892.1 19 _ _ rfl; have := E895.f yS; omega); have := R892.1 15 _ _ rfl; have := R892.1 16 _ _ rfl; have := R892.1 19 _ _ rfl; have := E895.f yS; omega
                      have : ra M911 o0 12 ((880 + ra M0 o0 6 44).toNat) = v909.toInt := (E915 _).trans (if_pos h919)
                      have K920 : rK M0 M911 o0 ((880 + ra M0 o0 6 44).toNat) := K896.st A916 E915 (by have := mz_nat9 (i := v34) (by have := R892.1 15 _ _ rfl; have := R892.1 16 _ _ rfl; have := R892.1 19 _ _ rfl; have := E895.f yS; omega); have := R892.1 15 _ _ rfl; have := R892.1 16 _ _ rfl; have := R892.1 19 _ _ rfl; have := E895.f yS; omega)
                      have K921 : nN M911 o0 := K897.same (sA_a A916 (by decide)) (sF_a V917)
                      have F922 : rE M850 M911 o0 1 1 := F898.same (fun k _ _ => V917 k) (fun k h1 h2 => A916 k (by omega) (by rcases (show k = 4 ∨ k = 5 by omega) with rfl | rfl <;> rfl))
                      exact mv_vret d_TrustDeskModel_readRule_270 rfl ⟨_, I912, rfl, R914, (rW.of E918.1 (fun h9 => absurd h9 (by have := R914.1 15 _ _ rfl; have := R914.1 16 _ _ rfl; have := R914.1 19 _ _ rfl; have := E918.f yS; omega)) (fun h9 => absurd h9 (by have := R914.1 15 _ _ rfl; have := R914.1 16 _ _ rfl; have := R914.1 19 _ _ rfl; have := E918.f yS; omega))), (rO.of E918 K920 (by have := yR.2 6 _ _ rfl 44; omega)), (by have := R914.1 15 _ _ rfl; have := R914.1 16 _ _ rfl; have := R914.1 19 _ _ rfl; have := E918.f yS; omega), (by have := R914.1 15 _ _ rfl; have := R914.1 16 _ _ rfl; have := R914.1 19 _ _ rfl; have := E918.f yS; omega)⟩
                    · exfalso
                      have := R813.1 15 _ _ rfl; have := R813.1 16 _ _ rfl; have := R813.1 19 _ _ rfl; have := E816.f yS; omega
                · refine mv_iconst (v := 3) d_TrustDeskModel_readRule_112 (by decide) ?_
                  refine mv_goto (tgt := 117) d_TrustDeskModel_readRule_113 (by decide) ?_
                  refine tr_iastR (k := 8) I656 R661 (I656.up h_o0) q671 t664 (by decide) (by decide) (fun lo hi h => by cases h; exact (by decide)) (Or.inl (by decide)) d_TrustDeskModel_readRule_117 (vp_in_iff.mpr (by have := R661.1 15 _ _ rfl; have := R661.1 16 _ _ rfl; have := R661.1 19 _ _ rfl; have := E665.f yS; omega)) (fun M923 I924 K925 R926 E927 A928 V929 => ?_)
                  have := V929 15
                  have := V929 16
                  have := V929 17
                  have := V929 19
                  have := V929 22
                  have := V929 24
                  have := A928 5 (by decide) rfl 44
                  have := A928 6 (by decide) rfl 44
                  have E930 : rE M0 M923 o0 0 1 := E665.same (fun k _ _ => V929 k) (fun k h1 h2 => A928 k (by omega) (by rcases (show k = 4 ∨ k = 5 by omega) with rfl | rfl <;> rfl))
                  have := A928 7 (by decide) rfl ((880 + ra M0 o0 6 44).toNat)
                  have := A928 10 (by decide) rfl ((880 + ra M0 o0 6 44).toNat)
                  have h931 : (880 + ra M0 o0 6 44).toNat = v34.toNatClampNeg := by have := mz_nat9 (i := v34) (by have := R661.1 15 _ _ rfl; have := R661.1 16 _ _ rfl; have := R661.1 19 _ _ rfl; have := E665.f yS; omega); have := R661.1 15 _ _ rfl; have := R661.1 16 _ _ rfl; have := R661.1 19 _ _ rfl; have := E665.f yS; omega
                  have : ra M923 o0 8 ((880 + ra M0 o0 6 44).toNat) = 3 := (E927 _).trans (if_pos h931)
                  have K932 : rK M0 M923 o0 ((880 + ra M0 o0 6 44).toNat) := K666.st A928 E927 (by have := mz_nat9 (i := v34) (by have := R661.1 15 _ _ rfl; have := R661.1 16 _ _ rfl; have := R661.1 19 _ _ rfl; have := E665.f yS; omega); have := R661.1 15 _ _ rfl; have := R661.1 16 _ _ rfl; have := R661.1 19 _ _ rfl; have := E665.f yS; omega)
                  have K933 : nN M923 o0 := K667.same (sA_a A928 (by decide)) (sF_a V929)
                  refine mv_aload_n d_TrustDeskModel_readRule_118 rfl rfl ?_
                  refine tr_getK (k := 8) (K925 _ 13 8 _ q671) d_TrustDeskModel_readRule_119 f_TrustDeskModel_29_13 ?_
                  refine mv_iload_n d_TrustDeskModel_readRule_122 rfl rfl ?_
                  refine tr_ialdR (o := o0) (k := 8) I924 (K925 _ 13 8 _ q671) t664 (by decide) d_TrustDeskModel_readRule_123 (vp_in_iff.mpr (by have := R926.1 15 _ _ rfl; have := R926.1 16 _ _ rfl; have := R926.1 19 _ _ rfl; have := E930.f yS; omega)) (fun v934 e935 => ?_)
                  have := R926.a (k := 8) rfl (v34 : Int32).toNatClampNeg
                  have h936 : (880 + ra M0 o0 6 44).toNat = v34.toNatClampNeg := by have := mz_nat9 (i := v34) (by have := R926.1 15 _ _ rfl; have := R926.1 16 _ _ rfl; have := R926.1 19 _ _ rfl; have := E930.f yS; omega); have := R926.1 15 _ _ rfl; have := R926.1 16 _ _ rfl; have := R926.1 19 _ _ rfl; have := E930.f yS; omega
                  have : v934.toInt = ra M923 o0 8 ((880 + ra M0 o0 6 44).toNat) := by rw [e935, h936]
                  refine mv_iconst (v := (-1)) d_TrustDeskModel_readRule_124 (by decide) ?_
                  have := mz_hi v934
                  refine mv_icmp_neZ (tgt := 133) (a := v934.toInt) (b := (-1)) d_TrustDeskModel_readRule_125 (by decide) rfl (by decide) (fun b937 => ?_) (fun b937 => ?_)
                  · refine mv_aload_n d_TrustDeskModel_readRule_133 rfl rfl ?_
                    obtain ⟨_, b938, -⟩ := I924.1 _ _ t663
                    refine mv_callV (kc1 := 0) (ks1 := 0) (kc' := 0) (ks' := 0) (As := []) (st9 := [.ref o0]) d_TrustDeskModel_readRule_134 lV_TrustDeskModel_230 b938 rfl (mj_enter (by decide) (Nat.le_of_ble_eq_true rfl) ?_) rfl (Nat.le_of_ble_eq_true rfl) (Nat.le_of_ble_eq_true rfl) (Nat.le_of_ble_eq_true rfl) (hst := rfl) (fun _ _ _ h => h)
                    refine mv_aload_n d_TrustDeskModel_isWell_0 rfl rfl ?_
                    refine tr_getK (k := 19) (K925 _ 13 19 _ q670) d_TrustDeskModel_isWell_1 f_TrustDeskModel_224_13 ?_
                    have := mz_hi v25
                    refine mv_if_neZ (tgt := 11) (a := v25.toInt) d_TrustDeskModel_isWell_4 (by decide) rfl (fun b939 => absurd b939 (by omega)) (fun b939 => ?_)
                    refine mv_iconst (v := 1) d_TrustDeskModel_isWell_7 (by decide) ?_
                    refine mv_goto (tgt := 12) d_TrustDeskModel_isWell_8 (by decide) ?_
                    refine mv_iret d_TrustDeskModel_isWell_12 rfl (by decide) ?_
                    refine mv_if_eq_f (tgt := 144) d_TrustDeskModel_readRule_137 (by decide) (by decide) ?_
                    refine mv_aload_n d_TrustDeskModel_readRule_140 rfl rfl ?_
                    obtain ⟨_, b946, -⟩ := I924.1 _ _ t663
                    refine mv_callV (kc' := 0) (ks' := 0) (As := []) (st9 := [.ref o0]) d_TrustDeskModel_readRule_141 lV_TrustDeskModel_237 b946 rfl (tc_TrustDeskModel_next_x (d := (d + 23)) (x9 := x9) (o0 := o0) t663 R926 I924.start) rfl (Nat.le_of_ble_eq_true rfl) (Nat.le_of_ble_eq_true rfl) (Nat.le_of_ble_eq_true rfl) (hst := rfl) (fun b940r M941 n942 b940 => ?_)
                    obtain ⟨T943, J944, rfl, R947, f948, f949⟩ := b940
                    have I945 := I924.call J944 (tm_sub (by decide)) (Or.inl rfl)
                    have t950 := J944.up t663
                    have := (rv_c I924 J944 (I924.up h_o0) (k := 19) rfl)
                    have := (rv_c I924 J944 (I924.up h_o0) (k := 22) rfl)
                    have := (rv_c I924 J944 (I924.up h_o0) (k := 24) rfl)
                    have := ra_call I924 J944 (I924.up h_o0) (k := 5) rfl rfl rfl 44
                    have := ra_call I924 J944 (I924.up h_o0) (k := 6) rfl rfl rfl 44
                    have h952 : rv M923 o0 16 + 1 ≤ rv M923 o0 15 := (by have := R926.1 15 _ _ rfl; have := R926.1 16 _ _ rfl; have := R926.1 19 _ _ rfl; have := E930.f yS; omega)
                    have E951 : rE M0 M941 o0 0 2 := E930.next f948 f949 (rv_c I924 J944 (I924.up h_o0) (k := 19) rfl) (rE_ha I924 J944 (I924.up h_o0) (by decide)) (e := 1) h952 (by decide)
                    have := ra_call I924 J944 (I924.up h_o0) (k := 7) rfl rfl rfl ((880 + ra M0 o0 6 44).toNat)
                    have := ra_call I924 J944 (I924.up h_o0) (k := 10) rfl rfl rfl ((880 + ra M0 o0 6 44).toNat)
                    have := ra_call I924 J944 (I924.up h_o0) (k := 8) rfl rfl rfl ((880 + ra M0 o0 6 44).toNat)
                    have K953 : rK M0 M941 o0 ((880 + ra M0 o0 6 44).toNat) := K932.same (sA_c I924 J944 (I924.up h_o0) (by decide))
                    have K954 : nN M941 o0 := K933.same (sA_c I924 J944 (I924.up h_o0) (by decide)) (sF_c I924 J944 (I924.up h_o0) (by decide))
                    have q955 := J944.keep t663 (by decide) (K925 _ 13 6 _ q668)
                    have t956 := J944.up t669
                    have q957 := J944.keep t663 (by decide) (K925 _ 13 19 _ q670)
                    have q958 := J944.keep t663 (by decide) (K925 _ 13 8 _ q671)
                    have t959 := J944.up t664
                    refine mv_aload_n d_TrustDeskModel_readRule_144 rfl rfl ?_
                    refine mv_ldcSw (id := 25) (tx := "if") d_TrustDeskModel_readRule_145 (List.mem_of_getElem? (i := 15) rfl) ?_
                    obtain ⟨_, b966, -⟩ := I945.1 _ _ t950
                    refine mv_callV (kc' := 0) (ks' := 0) (As := [.ref 25]) (st9 := [.ref 25, .ref o0]) d_TrustDeskModel_readRule_148 lV_TrustDeskModel_329 b966 rfl (tc_TrustDeskModel_wantWord_s1_25_x (d := (d + 19)) (x9 := x9) (o0 := o0) t950 R947 E951.1 (by have := R947.1 15 _ _ rfl; have := R947.1 16 _ _ rfl; have := R947.1 19 _ _ rfl; have := E951.f yS; omega) I945.start) rfl (Nat.le_of_ble_eq_true rfl) (Nat.le_of_ble_eq_true rfl) (Nat.le_of_ble_eq_true rfl) (hst := rfl) (fun b960r M961 n962 b960 => ?_)
                    obtain ⟨T963, J964, rfl, R967, f968⟩ := b960
                    have I965 := I945.call J964 (tm_sub (by decide)) (Or.inl rfl)
                    have t969 := J964.up t950
                    have := (rv_c I945 J964 (I945.up h_o0) (k := 22) rfl)
                    have := (rv_c I945 J964 (I945.up h_o0) (k := 24) rfl)
                    have := ra_call I945 J964 (I945.up h_o0) (k := 5) rfl rfl rfl 44
                    have := ra_call I945 J964 (I945.up h_o0) (k := 6) rfl rfl rfl 44
                    have E970 : rE M0 M961 o0 0 3 := E951.trans f968 (by decide) (yR.2 5 _ _ rfl 44).1 (by decide) (by decide)
                    have := f968.w
                    have := f968.w2
                    have := ra_call I945 J964 (I945.up h_o0) (k := 7) rfl rfl rfl ((880 + ra M0 o0 6 44).toNat)
                    have := ra_call I945 J964 (I945.up h_o0) (k := 10) rfl rfl rfl ((880 + ra M0 o0 6 44).toNat)
                    have := ra_call I945 J964 (I945.up h_o0) (k := 8) rfl rfl rfl ((880 + ra M0 o0 6 44).toNat)
                    have K971 : rK M0 M961 o0 ((880 + ra M0 o0 6 44).toNat) := K953.same (sA_c I945 J964 (I945.up h_o0) (by decide))
                    have K972 : nN M961 o0 := K954.same (sA_c I945 J964 (I945.up h_o0) (by decide)) (sF_c I945 J964 (I945.up h_o0) (by decide))
                    have q973 := J964.keep t950 (by decide) q955
                    have t974 := J964.up t956
                    have q975 := J964.keep t950 (by decide) q958
                    have t976 := J964.up t959
                    refine mv_aload_n d_TrustDeskModel_readRule_151 rfl rfl ?_
                    obtain ⟨a978, q977, t_a978⟩ := tm_atR I965 t969 (k := 11) rfl
                    refine tr_getK q977 d_TrustDeskModel_readRule_152 f_TrustDeskModel_38_13 ?_
                    refine mv_iload_n d_TrustDeskModel_readRule_155 rfl rfl ?_
                    refine mv_aload_n d_TrustDeskModel_readRule_156 rfl rfl ?_
                    obtain ⟨a980, q979, t_a980⟩ := tm_atR I965 t969 (k := 5) rfl
                    refine tr_getK q979 d_TrustDeskModel_readRule_157 f_TrustDeskModel_20_13 ?_
                    refine mv_bipush (v := 44) d_TrustDeskModel_readRule_160 (by decide) ?_
                    refine tr_ialdR (o := o0) (k := 5) I965 q979 t_a980 (by decide) d_TrustDeskModel_readRule_162 (by unfold vp_in; decide) (fun v981 e982 => ?_)
                    have := R967.a (k := 5) rfl (44 : Int32).toNatClampNeg
                    have : v981.toInt = ra M961 o0 5 44 := e982
                    refine tr_iastR (k := 11) I965 R967 (I965.up h_o0) q977 t_a978 (by decide) (by decide) (fun lo hi h => by cases h; have := R967.1 15 _ _ rfl; have := R967.1 16 _ _ rfl; have := R967.1 19 _ _ rfl; have := E970.f yS; exact ⟨by show (0 : Int) ≤ v981.toInt; omega, by show v981.toInt ≤ (400 : Int); omega⟩) (Or.inl (by decide)) d_TrustDeskModel_readRule_163 (vp_in_iff.mpr (by have := R967.1 15 _ _ rfl; have := R967.1 16 _ _ rfl; have := R967.1 19 _ _ rfl; have := E970.f yS; omega)) (fun M983 I984 K985 R986 E987 A988 V989 => ?_)
                    have := V989 15
                    have := V989 16
                    have := V989 17
                    have := V989 19
                    have := V989 22
                    have := V989 24
                    have := A988 5 (by decide) rfl 44
                    have := A988 6 (by decide) rfl 44
                    have E990 : rE M0 M983 o0 0 3 := E970.same (fun k _ _ => V989 k) (fun k h1 h2 => A988 k (by omega) (by rcases (show k = 4 ∨ k = 5 by omega) with rfl | rfl <;> rfl))
                    have := A988 7 (by decide) rfl ((880 + ra M0 o0 6 44).toNat)
                    have := A988 10 (by decide) rfl ((880 + ra M0 o0 6 44).toNat)
                    have := A988 8 (by decide) rfl ((880 + ra M0 o0 6 44).toNat)
                    have h991 : (880 + ra M0 o0 6 44).toNat = v34.toNatClampNeg := by have := mz_nat9 (i := v34) (by have := R967.1 15 _ _ rfl; have := R967.1 16 _ _ rfl; have := R967.1 19 _ _ rfl; have := E970.f yS; omega); have := R967.1 15 _ _ rfl; have := R967.1 16 _ _ rfl; have := R967.1 19 _ _ rfl; have := E970.f yS; omega
                    have : ra M983 o0 11 ((880 + ra M0 o0 6 44).toNat) = v981.toInt := (E987 _).trans (if_pos h991)
                    have K992 : rK M0 M983 o0 ((880 + ra M0 o0 6 44).toNat) := K971.st A988 E987 (by have := mz_nat9 (i := v34) (by have := R967.1 15 _ _ rfl; have := R967.1 16 _ _ rfl; have := R967.1 19 _ _ rfl; have := E970.f yS; omega); have := R967.1 15 _ _ rfl; have := R967.1 16 _ _ rfl; have := R967.1 19 _ _ rfl; have := E970.f yS; omega)
                    have K993 : nN M983 o0 := K972.same (sA_a A988 (by decide)) (sF_a V989)
                    have F994 : rE M983 M983 o0 0 0 := rE.rf E990.1
                    refine mv_aload_n d_TrustDeskModel_readRule_164 rfl rfl ?_
                    obtain ⟨_, b1001, -⟩ := I984.1 _ _ t969
                    refine mv_callV (kc' := 0) (ks' := 0) (As := []) (st9 := [.ref o0]) d_TrustDeskModel_readRule_165 lV_TrustDeskModel_302 b1001 rfl (tc_TrustDeskModel_cond_q5_x (d := d) (x9 := x9) (o0 := o0) t969 R986 E990.1 (by have := R986.1 15 _ _ rfl; have := R986.1 16 _ _ rfl; have := R986.1 19 _ _ rfl; have := E990.f yS; omega) (by have := R986.1 15 _ _ rfl; have := R986.1 16 _ _ rfl; have := R986.1 19 _ _ rfl; have := E990.f yS; omega) I984.start) rfl (Nat.le_of_ble_eq_true rfl) (Nat.le_of_ble_eq_true rfl) (Nat.le_of_ble_eq_true rfl) (hst := rfl) (fun b995r M996 n997 b995 => ?_)
                    obtain ⟨T998, J999, rfl, R1002, f1003, f1004⟩ := b995
                    have I1000 := I984.call J999 (tm_sub (by decide)) (Or.inl rfl)
                    have t1005 := J999.up t969
                    have := (rv_c I984 J999 (I984.up h_o0) (k := 24) rfl)
                    have := ra_call I984 J999 (I984.up h_o0) (k := 6) rfl rfl rfl 44
                    have E1006 : rE M0 M996 o0 1 3 := E990.trans f1003 (by decide) (yR.2 5 _ _ rfl 44).1 (by decide) (by decide)
                    have := f1003.w
                    have := f1003.w2
                    have := ra_call I984 J999 (I984.up h_o0) (k := 7) rfl rfl rfl ((880 + ra M0 o0 6 44).toNat)
                    have := ra_call I984 J999 (I984.up h_o0) (k := 10) rfl rfl rfl ((880 + ra M0 o0 6 44).toNat)
                    have := ra_call I984 J999 (I984.up h_o0) (k := 8) rfl rfl rfl ((880 + ra M0 o0 6 44).toNat)
                    have := ra_call I984 J999 (I984.up h_o0) (k := 11) rfl rfl rfl ((880 + ra M0 o0 6 44).toNat)
                    have K1007 : rK M0 M996 o0 ((880 + ra M0 o0 6 44).toNat) := K992.same (sA_c I984 J999 (I984.up h_o0) (by decide))
                    have K1008 : nN M996 o0 := K993.same (sA_c I984 J999 (I984.up h_o0) (by decide)) (sF_c I984 J999 (I984.up h_o0) (by decide))
                    have F1009 : rE M983 M996 o0 1 0 := F994.trans f1003 (by decide) (R986.2 5 _ _ rfl 44).1 (by decide) (by decide)
                    have q1010 := J999.keep t969 (by decide) (K985 _ 13 6 _ q973)
                    have t1011 := J999.up t974
                    have q1012 := J999.keep t969 (by decide) (K985 _ 13 8 _ q975)
                    have t1013 := J999.up t976
                    have q1014 := J999.keep t969 (by decide) (K985 _ 13 11 _ q977)
                    have t1015 := J999.up t_a978
                    have q1016 := J999.keep t969 (by decide) (K985 _ 13 5 _ q979)
                    have t1017 := J999.up t_a980
                    refine mv_goto (tgt := 251) d_TrustDeskModel_readRule_168 (by decide) ?_
                    refine mv_aload_n d_TrustDeskModel_readRule_251 rfl rfl ?_
                    refine mv_bipush (v := 59) d_TrustDeskModel_readRule_252 (by decide) ?_
                    obtain ⟨_, b1024, -⟩ := I1000.1 _ _ t1005
                    have : (59 : Int32).toInt = 59 := by decide
                    refine mv_callV (kc' := 0) (ks' := 0) (As := [.int 59]) (st9 := [.int 59, .ref o0]) d_TrustDeskModel_readRule_254 lV_TrustDeskModel_291 b1024 rfl (tc_TrustDeskModel_wantSign_x (d := (d + 22)) (x9 := x9) (o0 := o0) (x1 := 59) t1005 R1002 E1006.1 (by have := R1002.1 15 _ _ rfl; have := R1002.1 16 _ _ rfl; have := R1002.1 19 _ _ rfl; have := E1006.f yS; omega) I1000.start) rfl (Nat.le_of_ble_eq_true rfl) (Nat.le_of_ble_eq_true rfl) (Nat.le_of_ble_eq_true rfl) (hst := rfl) (fun b1018r M1019 n1020 b1018 => ?_)
                    obtain ⟨T1021, J1022, rfl, R1025, f1026⟩ := b1018
                    have I1023 := I1000.call J1022 (tm_sub (by decide)) (Or.inl rfl)
                    have t1027 := J1022.up t1005
                    have := (rv_c I1000 J1022 (I1000.up h_o0) (k := 22) rfl)
                    have := (rv_c I1000 J1022 (I1000.up h_o0) (k := 24) rfl)
                    have := ra_call I1000 J1022 (I1000.up h_o0) (k := 5) rfl rfl rfl 44
                    have := ra_call I1000 J1022 (I1000.up h_o0) (k := 6) rfl rfl rfl 44
                    have E1028 : rE M0 M1019 o0 1 4 := E1006.trans f1026 (by decide) (yR.2 5 _ _ rfl 44).1 (by decide) (by decide)
                    have := f1026.w
                    have := f1026.w2
                    have := ra_call I1000 J1022 (I1000.up h_o0) (k := 7) rfl rfl rfl ((880 + ra M0 o0 6 44).toNat)
                    have := ra_call I1000 J1022 (I1000.up h_o0) (k := 10) rfl rfl rfl ((880 + ra M0 o0 6 44).toNat)
                    have := ra_call I1000 J1022 (I1000.up h_o0) (k := 8) rfl rfl rfl ((880 + ra M0 o0 6 44).toNat)
                    have := ra_call I1000 J1022 (I1000.up h_o0) (k := 11) rfl rfl rfl ((880 + ra M0 o0 6 44).toNat)
                    have K1029 : rK M0 M1019 o0 ((880 + ra M0 o0 6 44).toNat) := K1007.same (sA_c I1000 J1022 (I1000.up h_o0) (by decide))
                    have K1030 : nN M1019 o0 := K1008.same (sA_c I1000 J1022 (I1000.up h_o0) (by decide)) (sF_c I1000 J1022 (I1000.up h_o0) (by decide))
                    have F1031 : rE M983 M1019 o0 1 1 := F1009.trans f1026 (by decide) (R986.2 5 _ _ rfl 44).1 (by decide) (by decide)
                    have q1032 := J1022.keep t1005 (by decide) q1010
                    have t1033 := J1022.up t1011
                    have q1034 := J1022.keep t1005 (by decide) q1012
                    have t1035 := J1022.up t1013
                    have q1036 := J1022.keep t1005 (by decide) q1014
                    have t1037 := J1022.up t1015
                    have q1038 := J1022.keep t1005 (by decide) q1016
                    have t1039 := J1022.up t1017
                    refine mv_aload_n d_TrustDeskModel_readRule_257 rfl rfl ?_
                    obtain ⟨a1041, q1040, t_a1041⟩ := tm_atR I1023 t1027 (k := 12) rfl
                    refine tr_getK q1040 d_TrustDeskModel_readRule_258 f_TrustDeskModel_41_13 ?_
                    refine mv_iload_n d_TrustDeskModel_readRule_261 rfl rfl ?_
                    refine mv_aload_n d_TrustDeskModel_readRule_262 rfl rfl ?_
                    refine tr_getK (k := 5) q1038 d_TrustDeskModel_readRule_263 f_TrustDeskModel_20_13 ?_
                    refine mv_bipush (v := 44) d_TrustDeskModel_readRule_266 (by decide) ?_
                    refine tr_ialdR (o := o0) (k := 5) I1023 q1038 t1039 (by decide) d_TrustDeskModel_readRule_268 (by unfold vp_in; decide) (fun v1042 e1043 => ?_)
                    have := R1025.a (k := 5) rfl (44 : Int32).toNatClampNeg
                    have : v1042.toInt = ra M1019 o0 5 44 := e1043
                    refine tr_iastR (k := 12) I1023 R1025 (I1023.up h_o0) q1040 t_a1041 (by decide) (by decide) (fun lo hi h => by cases h; have := R1025.1 15 _ _ rfl; have := R1025.1 16 _ _ rfl; have := R1025.1 19 _ _ rfl; have := E1028.f yS; exact ⟨by show (0 : Int) ≤ v1042.toInt; omega, by show v1042.toInt ≤ (400 : Int); omega⟩) (Or.inl (by decide)) d_TrustDeskModel_readRule_269 (vp_in_iff.mpr (by have := R1025.1 15 _ _ rfl; have := R1025.1 16 _ _ rfl; have := R1025.1 19 _ _ rfl; have := E1028.f yS; omega)) (fun M1044 I1045 K1046 R1047 E1048 A1049 V1050 => ?_)
                    have := V1050 15
                    have := V1050 16
                    have := V1050 17
                    have := V1050 19
                    have := V1050 22
                    have := V1050 24
                    have := A1049 5 (by decide) rfl 44
                    have := A1049 6 (by decide) rfl 44
                    have E1051 : rE M0 M1044 o0 1 4 := E1028.same (fun k _ _ => V1050 k) (fun k h1 h2 => A1049 k (by omega) (by rcases (show k = 4 ∨ k = 5 by omega) with rfl | rfl <;> rfl))
                    have := A1049 7 (by decide) rfl ((880 + ra M0 o0 6 44).toNat)
                    have := A1049 10 (by decide) rfl ((880 + ra M0 o0 6 44).toNat)
                    have := A1049 8 (by decide) rfl ((880 + ra M0 o0 6 44).toNat)
                    have := A1049 11 (by decide) rfl ((880 + ra M0 o0 6 44).toNat)
                    have h1052 : (880 + ra M0 o0 6 44).toNat = v34.toNatClampNeg := by have := mz_nat9 (i := v34) (by have := R1025.1 15 _ _ rfl; have := R1025.1 16 _ _ rfl; have := R1025.1 19 _ _ rfl; have := E1028.f yS; omega); have := R1025.1 15 _ _ rfl; have := R1025.1 16 _ _ rfl; have := R1025.1 19 _ _ rfl; have := E1028.f yS; omega
                    have : ra M1044 o0 12 ((880 + ra M0 o0 6 44).toNat) = v1042.toInt := (E1048 _).trans (if_pos h1052)
                    have K1053 : rK M0 M1044 o0 ((880 + ra M0 o0 6 44).toNat) := K1029.st A1049 E1048 (by have := mz_nat9 (i := v34) (by have := R1025.1 15 _ _ rfl; have := R1025.1 16 _ _ rfl; have := R1025.1 19 _ _ rfl; have := E1028.f yS; omega); have := R1025.1 15 _ _ rfl; have := R1025.1 16 _ _ rfl; have := R1025.1 19 _ _ rfl; have := E1028.f yS; omega)
                    have K1054 : nN M1044 o0 := K1030.same (sA_a A1049 (by decide)) (sF_a V1050)
                    have F1055 : rE M983 M1044 o0 1 1 := F1031.same (fun k _ _ => V1050 k) (fun k h1 h2 => A1049 k (by omega) (by rcases (show k = 4 ∨ k = 5 by omega) with rfl | rfl <;> rfl))
                    exact mv_vret d_TrustDeskModel_readRule_270 rfl ⟨_, I1045, rfl, R1047, (rW.of E1051.1 (fun w9 => (by have := R1047.1 15 _ _ rfl; have := R1047.1 16 _ _ rfl; have := R1047.1 19 _ _ rfl; have := E1051.f yS; omega)) (fun w9 => rG.step yG yR E1051 w9 K1053 (by have := yR.2 6 _ _ rfl 44; omega) (by have := R1047.1 15 _ _ rfl; have := R1047.1 16 _ _ rfl; have := R1047.1 19 _ _ rfl; have := E1051.f yS; omega) (by have := R1047.1 15 _ _ rfl; have := R1047.1 16 _ _ rfl; have := R1047.1 19 _ _ rfl; have := E1051.f yS; omega) (fun _ => rowN.of E990 F1055 w9 (by decide) (by decide) (yR.2 5 _ _ rfl 44).1 (by have := R1047.1 15 _ _ rfl; have := R1047.1 16 _ _ rfl; have := R1047.1 19 _ _ rfl; have := E1051.f yS; omega) (by have := R1047.1 15 _ _ rfl; have := R1047.1 16 _ _ rfl; have := R1047.1 19 _ _ rfl; have := E1051.f yS; omega) (by have := R1047.1 15 _ _ rfl; have := R1047.1 16 _ _ rfl; have := R1047.1 19 _ _ rfl; have := E1051.f yS; omega)) (fun h9 => (by have := R1047.1 15 _ _ rfl; have := R1047.1 16 _ _ rfl; have := R1047.1 19 _ _ rfl; have := E1051.f yS; omega)) (by have := R1047.1 15 _ _ rfl; have := R1047.1 16 _ _ rfl; have := R1047.1 19 _ _ rfl; have := E1051.f yS; omega) K1054)), (rO.of E1051 K1053 (by have := yR.2 6 _ _ rfl 44; omega)), (by have := R1047.1 15 _ _ rfl; have := R1047.1 16 _ _ rfl; have := R1047.1 19 _ _ rfl; have := E1051.f yS; omega), (by have := R1047.1 15 _ _ rfl; have := R1047.1 16 _ _ rfl; have := R1047.1 19 _ _ rfl; have := E1051.f yS; omega)⟩
                  · refine mv_aload_n d_TrustDeskModel_readRule_128 rfl rfl ?_
                    refine mv_iconst (v := 1) d_TrustDeskModel_readRule_129 (by decide) ?_
                    obtain ⟨_, b1062, -⟩ := I924.1 _ _ t663
                    have : (1 : Int32).toInt = 1 := by decide
                    refine mv_callV (kc' := 0) (ks' := 0) (As := [.int 1]) (st9 := [.int 1, .ref o0]) d_TrustDeskModel_readRule_130 lV_TrustDeskModel_240 b1062 rfl (tc_TrustDeskModel_fails_x (d := (d + 24)) (x9 := x9) (o0 := o0) (x1 := 1) t663 R926 (by decide) I924.start) rfl (Nat.le_of_ble_eq_true rfl) (Nat.le_of_ble_eq_true rfl) (Nat.le_of_ble_eq_true rfl) (hst := rfl) (fun b1056r M1057 n1058 b1056 => ?_)
                    obtain ⟨T1059, J1060, rfl, R1063, f1064⟩ := b1056
                    have I1061 := I924.call J1060 (tm_sub (by decide)) (Or.inl rfl)
                    have t1065 := J1060.up t663
                    have := (rv_c I924 J1060 (I924.up h_o0) (k := 15) rfl)
                    have := (rv_c I924 J1060 (I924.up h_o0) (k := 16) rfl)
                    have := (rv_c I924 J1060 (I924.up h_o0) (k := 17) rfl)
                    have := (rv_c I924 J1060 (I924.up h_o0) (k := 22) rfl)
                    have := (rv_c I924 J1060 (I924.up h_o0) (k := 24) rfl)
                    have := ra_call I924 J1060 (I924.up h_o0) (k := 5) rfl rfl rfl 44
                    have := ra_call I924 J1060 (I924.up h_o0) (k := 6) rfl rfl rfl 44
                    have E1066 : rE M0 M1057 o0 0 1 := E930.fails (rE_hv I924 J1060 (I924.up h_o0) 15 18 (by decide)) (rE_ha I924 J1060 (I924.up h_o0) (by decide)) f1064 0 1
                    have := ra_call I924 J1060 (I924.up h_o0) (k := 7) rfl rfl rfl ((880 + ra M0 o0 6 44).toNat)
                    have := ra_call I924 J1060 (I924.up h_o0) (k := 10) rfl rfl rfl ((880 + ra M0 o0 6 44).toNat)
                    have := ra_call I924 J1060 (I924.up h_o0) (k := 8) rfl rfl rfl ((880 + ra M0 o0 6 44).toNat)
                    have K1067 : rK M0 M1057 o0 ((880 + ra M0 o0 6 44).toNat) := K932.same (sA_c I924 J1060 (I924.up h_o0) (by decide))
                    have K1068 : nN M1057 o0 := K933.same (sA_c I924 J1060 (I924.up h_o0) (by decide)) (sF_c I924 J1060 (I924.up h_o0) (by decide))
                    have q1069 := J1060.keep t663 (by decide) (K925 _ 13 6 _ q668)
                    have t1070 := J1060.up t669
                    have q1071 := J1060.keep t663 (by decide) (K925 _ 13 8 _ q671)
                    have t1072 := J1060.up t664
                    refine mv_aload_n d_TrustDeskModel_readRule_133 rfl rfl ?_
                    obtain ⟨_, b1073, -⟩ := I1061.1 _ _ t1065
                    refine mv_callV (kc1 := 0) (ks1 := 0) (kc' := 0) (ks' := 0) (As := []) (st9 := [.ref o0]) d_TrustDeskModel_readRule_134 lV_TrustDeskModel_230 b1073 rfl (mj_enter (by decide) (Nat.le_of_ble_eq_true rfl) ?_) rfl (Nat.le_of_ble_eq_true rfl) (Nat.le_of_ble_eq_true rfl) (Nat.le_of_ble_eq_true rfl) (hst := rfl) (fun _ _ _ h => h)
                    refine mv_aload_n d_TrustDeskModel_isWell_0 rfl rfl ?_
                    obtain ⟨v1075, q1074⟩ := tm_atI I1061 t1065 (k := 19) rfl
                    refine tr_getK q1074 d_TrustDeskModel_isWell_1 f_TrustDeskModel_224_13 ?_
                    have := R1063.f (k := 19) q1074 rfl
                    have := tm_rv q1074
                    refine mv_if_neZ (tgt := 11) (a := v1075.toInt) d_TrustDeskModel_isWell_4 (by decide) rfl (fun b1076 => ?_) (fun b1076 => ?_)
                    · refine mv_iconst (v := 0) d_TrustDeskModel_isWell_11 (by decide) ?_
                      refine mv_iret d_TrustDeskModel_isWell_12 rfl (by decide) ?_
                      refine mv_if_eq_t (tgt := 144) d_TrustDeskModel_readRule_137 (by decide) (by decide) ?_
                      refine mv_aload_n d_TrustDeskModel_readRule_144 rfl rfl ?_
                      refine mv_ldcSw (id := 25) (tx := "if") d_TrustDeskModel_readRule_145 (List.mem_of_getElem? (i := 15) rfl) ?_
                      obtain ⟨_, b1083, -⟩ := I1061.1 _ _ t1065
                      refine mv_callV (kc' := 0) (ks' := 0) (As := [.ref 25]) (st9 := [.ref 25, .ref o0]) d_TrustDeskModel_readRule_148 lV_TrustDeskModel_329 b1083 rfl (tc_TrustDeskModel_wantWord_s1_25_x (d := (d + 19)) (x9 := x9) (o0 := o0) t1065 R1063 E1066.1 (by have := R1063.1 15 _ _ rfl; have := R1063.1 16 _ _ rfl; have := R1063.1 19 _ _ rfl; have := E1066.f yS; omega) I1061.start) rfl (Nat.le_of_ble_eq_true rfl) (Nat.le_of_ble_eq_true rfl) (Nat.le_of_ble_eq_true rfl) (hst := rfl) (fun b1077r M1078 n1079 b1077 => ?_)
                      obtain ⟨T1080, J1081, rfl, R1084, f1085⟩ := b1077
                      have I1082 := I1061.call J1081 (tm_sub (by decide)) (Or.inl rfl)
                      have t1086 := J1081.up t1065
                      have := (rv_c I1061 J1081 (I1061.up h_o0) (k := 22) rfl)
                      have := (rv_c I1061 J1081 (I1061.up h_o0) (k := 24) rfl)
                      have := ra_call I1061 J1081 (I1061.up h_o0) (k := 5) rfl rfl rfl 44
                      have := ra_call I1061 J1081 (I1061.up h_o0) (k := 6) rfl rfl rfl 44
                      have E1087 : rE M0 M1078 o0 0 2 := E1066.trans f1085 (by decide) (yR.2 5 _ _ rfl 44).1 (by decide) (by decide)
                      have := f1085.w
                      have := f1085.w2
                      have := ra_call I1061 J1081 (I1061.up h_o0) (k := 7) rfl rfl rfl ((880 + ra M0 o0 6 44).toNat)
                      have := ra_call I1061 J1081 (I1061.up h_o0) (k := 10) rfl rfl rfl ((880 + ra M0 o0 6 44).toNat)
                      have := ra_call I1061 J1081 (I1061.up h_o0) (k := 8) rfl rfl rfl ((880 + ra M0 o0 6 44).toNat)
                      have K1088 : rK M0 M1078 o0 ((880 + ra M0 o0 6 44).toNat) := K1067.same (sA_c I1061 J1081 (I1061.up h_o0) (by decide))
                      have K1089 : nN M1078 o0 := K1068.same (sA_c I1061 J1081 (I1061.up h_o0) (by decide)) (sF_c I1061 J1081 (I1061.up h_o0) (by decide))
                      have q1090 := J1081.keep t1065 (by decide) q1069
                      have t1091 := J1081.up t1070
                      have q1092 := J1081.keep t1065 (by decide) q1071
                      have t1093 := J1081.up t1072
                      refine mv_aload_n d_TrustDeskModel_readRule_151 rfl rfl ?_
                      obtain ⟨a1095, q1094, t_a1095⟩ := tm_atR I1082 t1086 (k := 11) rfl
                      refine tr_getK q1094 d_TrustDeskModel_readRule_152 f_TrustDeskModel_38_13 ?_
                      refine mv_iload_n d_TrustDeskModel_readRule_155 rfl rfl ?_
                      refine mv_aload_n d_TrustDeskModel_readRule_156 rfl rfl ?_
                      obtain ⟨a1097, q1096, t_a1097⟩ := tm_atR I1082 t1086 (k := 5) rfl
                      refine tr_getK q1096 d_TrustDeskModel_readRule_157 f_TrustDeskModel_20_13 ?_
                      refine mv_bipush (v := 44) d_TrustDeskModel_readRule_160 (by decide) ?_
                      refine tr_ialdR (o := o0) (k := 5) I1082 q1096 t_a1097 (by decide) d_TrustDeskModel_readRule_162 (by unfold vp_in; decide) (fun v1098 e1099 => ?_)
                      have := R1084.a (k := 5) rfl (44 : Int32).toNatClampNeg
                      have : v1098.toInt = ra M1078 o0 5 44 := e1099
                      refine tr_iastR (k := 11) I1082 R1084 (I1082.up h_o0) q1094 t_a1095 (by decide) (by decide) (fun lo hi h => by cases h; have := R1084.1 15 _ _ rfl; have := R1084.1 16 _ _ rfl; have := R1084.1 19 _ _ rfl; have := E1087.f yS; exact ⟨by show (0 : Int) ≤ v1098.toInt; omega, by show v1098.toInt ≤ (400 : Int); omega⟩) (Or.inl (by decide)) d_TrustDeskModel_readRule_163 (vp_in_iff.mpr (by have := R1084.1 15 _ _ rfl; have := R1084.1 16 _ _ rfl; have := R1084.1 19 _ _ rfl; have := E1087.f yS; omega)) (fun M1100 I1101 K1102 R1103 E1104 A1105 V1106 => ?_)
                      have := V1106 15
                      have := V1106 16
                      have := V1106 17
                      have := V1106 19
                      have := V1106 22
                      have := V1106 24
                      have := A1105 5 (by decide) rfl 44
                      have := A1105 6 (by decide) rfl 44
                      have E1107 : rE M0 M1100 o0 0 2 := E1087.same (fun k _ _ => V1106 k) (fun k h1 h2 => A1105 k (by omega) (by rcases (show k = 4 ∨ k = 5 by omega) with rfl | rfl <;> rfl))
                      have := A1105 7 (by decide) rfl ((880 + ra M0 o0 6 44).toNat)
                      have := A1105 10 (by decide) rfl ((880 + ra M0 o0 6 44).toNat)
                      have := A1105 8 (by decide) rfl ((880 + ra M0 o0 6 44).toNat)
                      have h1108 : (880 + ra M0 o0 6 44).toNat = v34.toNatClampNeg := by have := mz_nat9 (i := v34) (by have := R1084.1 15 _ _ rfl; have := R1084.1 16 _ _ rfl; have := R1084.1 19 _ _ rfl; have := E1087.f yS; omega); have := R1084.1 15 _ _ rfl; have := R1084.1 16 _ _ rfl; have := R1084.1 19 _ _ rfl; have := E1087.f yS; omega
                      have : ra M1100 o0 11 ((880 + ra M0 o0 6 44).toNat) = v1098.toInt := (E1104 _).trans (if_pos h1108)
                      have K1109 : rK M0 M1100 o0 ((880 + ra M0 o0 6 44).toNat) := K1088.st A1105 E1104 (by have := mz_nat9 (i := v34) (by have := R1084.1 15 _ _ rfl; have := R1084.1 16 _ _ rfl; have := R1084.1 19 _ _ rfl; have := E1087.f yS; omega); have := R1084.1 15 _ _ rfl; have := R1084.1 16 _ _ rfl; have := R1084.1 19 _ _ rfl; have := E1087.f yS; omega)
                      have K1110 : nN M1100 o0 := K1089.same (sA_a A1105 (by decide)) (sF_a V1106)
                      have F1111 : rE M1100 M1100 o0 0 0 := rE.rf E1107.1
                      refine mv_aload_n d_TrustDeskModel_readRule_164 rfl rfl ?_
                      obtain ⟨_, b1118, -⟩ := I1101.1 _ _ t1086
                      refine mv_callV (kc' := 0) (ks' := 0) (As := []) (st9 := [.ref o0]) d_TrustDeskModel_readRule_165 lV_TrustDeskModel_302 b1118 rfl (tc_TrustDeskModel_cond_q5_x (d := d) (x9 := x9) (o0 := o0) t1086 R1103 E1107.1 (by have := R1103.1 15 _ _ rfl; have := R1103.1 16 _ _ rfl; have := R1103.1 19 _ _ rfl; have := E1107.f yS; omega) (by have := R1103.1 15 _ _ rfl; have := R1103.1 16 _ _ rfl; have := R1103.1 19 _ _ rfl; have := E1107.f yS; omega) I1101.start) rfl (Nat.le_of_ble_eq_true rfl) (Nat.le_of_ble_eq_true rfl) (Nat.le_of_ble_eq_true rfl) (hst := rfl) (fun b1112r M1113 n1114 b1112 => ?_)
                      obtain ⟨T1115, J1116, rfl, R1119, f1120, f1121⟩ := b1112
                      have I1117 := I1101.call J1116 (tm_sub (by decide)) (Or.inl rfl)
                      have t1122 := J1116.up t1086
                      have := (rv_c I1101 J1116 (I1101.up h_o0) (k := 24) rfl)
                      have := ra_call I1101 J1116 (I1101.up h_o0) (k := 6) rfl rfl rfl 44
                      have E1123 : rE M0 M1113 o0 1 2 := E1107.trans f1120 (by decide) (yR.2 5 _ _ rfl 44).1 (by decide) (by decide)
                      have := f1120.w
                      have := f1120.w2
                      have := ra_call I1101 J1116 (I1101.up h_o0) (k := 7) rfl rfl rfl ((880 + ra M0 o0 6 44).toNat)
                      have := ra_call I1101 J1116 (I1101.up h_o0) (k := 10) rfl rfl rfl ((880 + ra M0 o0 6 44).toNat)
                      have := ra_call I1101 J1116 (I1101.up h_o0) (k := 8) rfl rfl rfl ((880 + ra M0 o0 6 44).toNat)
                      have := ra_call I1101 J1116 (I1101.up h_o0) (k := 11) rfl rfl rfl ((880 + ra M0 o0 6 44).toNat)
                      have K1124 : rK M0 M1113 o0 ((880 + ra M0 o0 6 44).toNat) := K1109.same (sA_c I1101 J1116 (I1101.up h_o0) (by decide))
                      have K1125 : nN M1113 o0 := K1110.same (sA_c I1101 J1116 (I1101.up h_o0) (by decide)) (sF_c I1101 J1116 (I1101.up h_o0) (by decide))
                      have F1126 : rE M1100 M1113 o0 1 0 := F1111.trans f1120 (by decide) (R1103.2 5 _ _ rfl 44).1 (by decide) (by decide)
                      have q1127 := J1116.keep t1086 (by decide) (K1102 _ 13 6 _ q1090)
                      have t1128 := J1116.up t1091
                      have q1129 := J1116.keep t1086 (by decide) (K1102 _ 13 8 _ q1092)
                      have t1130 := J1116.up t1093
                      have q1131 := J1116.keep t1086 (by decide) (K1102 _ 13 11 _ q1094)
                      have t1132 := J1116.up t_a1095
                      have q1133 := J1116.keep t1086 (by decide) (K1102 _ 13 5 _ q1096)
                      have t1134 := J1116.up t_a1097
                      refine mv_goto (tgt := 251) d_TrustDeskModel_readRule_168 (by decide) ?_
                      refine mv_aload_n d_TrustDeskModel_readRule_251 rfl rfl ?_
                      refine mv_bipush (v := 59) d_TrustDeskModel_readRule_252 (by decide) ?_
                      obtain ⟨_, b1141, -⟩ := I1117.1 _ _ t1122
                      have : (59 : Int32).toInt = 59 := by decide
                      refine mv_callV (kc' := 0) (ks' := 0) (As := [.int 59]) (st9 := [.int 59, .ref o0]) d_TrustDeskModel_readRule_254 lV_TrustDeskModel_291 b1141 rfl (tc_TrustDeskModel_wantSign_x (d := (d + 22)) (x9 := x9) (o0 := o0) (x1 := 59) t1122 R1119 E1123.1 (by have := R1119.1 15 _ _ rfl; have := R1119.1 16 _ _ rfl; have := R1119.1 19 _ _ rfl; have := E1123.f yS; omega) I1117.start) rfl (Nat.le_of_ble_eq_true rfl) (Nat.le_of_ble_eq_true rfl) (Nat.le_of_ble_eq_true rfl) (hst := rfl) (fun b1135r M1136 n1137 b1135 => ?_)
                      obtain ⟨T1138, J1139, rfl, R1142, f1143⟩ := b1135
                      have I1140 := I1117.call J1139 (tm_sub (by decide)) (Or.inl rfl)
                      have t1144 := J1139.up t1122
                      have := (rv_c I1117 J1139 (I1117.up h_o0) (k := 22) rfl)
                      have := (rv_c I1117 J1139 (I1117.up h_o0) (k := 24) rfl)
                      have := ra_call I1117 J1139 (I1117.up h_o0) (k := 5) rfl rfl rfl 44
                      have := ra_call I1117 J1139 (I1117.up h_o0) (k := 6) rfl rfl rfl 44
                      have E1145 : rE M0 M1136 o0 1 3 := E1123.trans f1143 (by decide) (yR.2 5 _ _ rfl 44).1 (by decide) (by decide)
                      have := f1143.w
                      have := f1143.w2
                      have := ra_call I1117 J1139 (I1117.up h_o0) (k := 7) rfl rfl rfl ((880 + ra M0 o0 6 44).toNat)
                      have := ra_call I1117 J1139 (I1117.up h_o0) (k := 10) rfl rfl rfl ((880 + ra M0 o0 6 44).toNat)
                      have := ra_call I1117 J1139 (I1117.up h_o0) (k := 8) rfl rfl rfl ((880 + ra M0 o0 6 44).toNat)
                      have := ra_call I1117 J1139 (I1117.up h_o0) (k := 11) rfl rfl rfl ((880 + ra M0 o0 6 44).toNat)
                      have K1146 : rK M0 M1136 o0 ((880 + ra M0 o0 6 44).toNat) := K1124.same (sA_c I1117 J1139 (I1117.up h_o0) (by decide))
                      have K1147 : nN M1136 o0 := K1125.same (sA_c I1117 J1139 (I1117.up h_o0) (by decide)) (sF_c I1117 J1139 (I1117.up h_o0) (by decide))
                      have F1148 : rE M1100 M1136 o0 1 1 := F1126.trans f1143 (by decide) (R1103.2 5 _ _ rfl 44).1 (by decide) (by decide)
                      have q1149 := J1139.keep t1122 (by decide) q1127
                      have t1150 := J1139.up t1128
                      have q1151 := J1139.keep t1122 (by decide) q1129
                      have t1152 := J1139.up t1130
                      have q1153 := J1139.keep t1122 (by decide) q1131
                      have t1154 := J1139.up t1132
                      have q1155 := J1139.keep t1122 (by decide) q1133
                      have t1156 := J1139.up t1134
                      refine mv_aload_n d_TrustDeskModel_readRule_257 rfl rfl ?_
                      obtain ⟨a1158, q1157, t_a1158⟩ := tm_atR I1140 t1144 (k := 12) rfl
                      refine tr_getK q1157 d_TrustDeskModel_readRule_258 f_TrustDeskModel_41_13 ?_
                      refine mv_iload_n d_TrustDeskModel_readRule_261 rfl rfl ?_
                      refine mv_aload_n d_TrustDeskModel_readRule_262 rfl rfl ?_
                      refine tr_getK (k := 5) q1155 d_TrustDeskModel_readRule_263 f_TrustDeskModel_20_13 ?_
                      refine mv_bipush (v := 44) d_TrustDeskModel_readRule_266 (by decide) ?_
                      refine tr_ialdR (o := o0) (k := 5) I1140 q1155 t1156 (by decide) d_TrustDeskModel_readRule_268 (by unfold vp_in; decide) (fun v1159 e1160 => ?_)
                      have := R1142.a (k := 5) rfl (44 : Int32).toNatClampNeg
                      have : v1159.toInt = ra M1136 o0 5 44 := e1160
                      refine tr_iastR (k := 12) I1140 R1142 (I1140.up h_o0) q1157 t_a1158 (by decide) (by decide) (fun lo hi h => by cases h; have := R1142.1 15 _ _ rfl; have := R1142.1 16 _ _ rfl; have := R1142.1 19 _ _ rfl; have := E1145.f yS; exact ⟨by show (0 : Int) ≤ v1159.toInt; omega, by show v1159.toInt ≤ (400 : Int); omega⟩) (Or.inl (by decide)) d_TrustDeskModel_readRule_269 (vp_in_iff.mpr (by have := R1142.1 15 _ _ rfl; have := R1142.1 16 _ _ rfl; have := R1142.1 19 _ _ rfl; have := E1145.f yS; omega)) (fun M1161 I1162 K1163 R1164 E1165 A1166 V1167 => ?_)
                      have := V1167 15
                      have := V1167 16
                      have := V1167 17
                      have := V1167 19
                      have := V1167 22
                      have := V1167 24
                      have := A1166 5 (by decide) rfl 44
                      have := A1166 6 (by decide) rfl 44
                      have E1168 : rE M0 M1161 o0 1 3 := E1145.same (fun k _ _ => V1167 k) (fun k h1 h2 => A1166 k (by omega) (by rcases (show k = 4 ∨ k = 5 by omega) with rfl | rfl <;> rfl))
                      have := A1166 7 (by decide) rfl ((880 + ra M0 o0 6 44).toNat)
                      have := A1166 10 (by decide) rfl ((880 + ra M0 o0 6 44).toNat)
                      have := A1166 8 (by decide) rfl ((880 + ra M0 o0 6 44).toNat)
                      have := A1166 11 (by decide) rfl ((880 + ra M0 o0 6 44).toNat)
                      have h1169 : (880 + ra M0 o0 6 44).toNat = v34.toNatClampNeg := by have := mz_nat9 (i := v34) (by have := R1142.1 15 _ _ rfl; have := R1142.1 16 _ _ rfl; have := R1142.1 19 _ _ rfl; have := E1145.f yS; omega); have := R1142.1 15 _ _ rfl; have := R1142.1 16 _ _ rfl; have := R1142.1 19 _ _ rfl; have := E1145.f yS; omega
                      have : ra M1161 o0 12 ((880 + ra M0 o0 6 44).toNat) = v1159.toInt := (E1165 _).trans (if_pos h1169)
                      have K1170 : rK M0 M1161 o0 ((880 + ra M0 o0 6 44).toNat) := K1146.st A1166 E1165 (by have := mz_nat9 (i := v34) (by have := R1142.1 15 _ _ rfl; have := R1142.1 16 _ _ rfl; have := R1142.1 19 _ _ rfl; have := E1145.f yS; omega); have := R1142.1 15 _ _ rfl; have := R1142.1 16 _ _ rfl; have := R1142.1 19 _ _ rfl; have := E1145.f yS; omega)
                      have K1171 : nN M1161 o0 := K1147.same (sA_a A1166 (by decide)) (sF_a V1167)
                      have F1172 : rE M1100 M1161 o0 1 1 := F1148.same (fun k _ _ => V1167 k) (fun k h1 h2 => A1166 k (by omega) (by rcases (show k = 4 ∨ k = 5 by omega) with rfl | rfl <;> rfl))
                      exact mv_vret d_TrustDeskModel_readRule_270 rfl ⟨_, I1162, rfl, R1164, (rW.of E1168.1 (fun h9 => absurd h9 (by have := R1164.1 15 _ _ rfl; have := R1164.1 16 _ _ rfl; have := R1164.1 19 _ _ rfl; have := E1168.f yS; omega)) (fun h9 => absurd h9 (by have := R1164.1 15 _ _ rfl; have := R1164.1 16 _ _ rfl; have := R1164.1 19 _ _ rfl; have := E1168.f yS; omega))), (rO.of E1168 K1170 (by have := yR.2 6 _ _ rfl 44; omega)), (by have := R1164.1 15 _ _ rfl; have := R1164.1 16 _ _ rfl; have := R1164.1 19 _ _ rfl; have := E1168.f yS; omega), (by have := R1164.1 15 _ _ rfl; have := R1164.1 16 _ _ rfl; have := R1164.1 19 _ _ rfl; have := E1168.f yS; omega)⟩
                    · exfalso
                      have := R1063.1 15 _ _ rfl; have := R1063.1 16 _ _ rfl; have := R1063.1 19 _ _ rfl; have := E1066.f yS; omega
              · refine mv_iconst (v := 2) d_TrustDeskModel_readRule_98 (by decide) ?_
                refine mv_goto (tgt := 117) d_TrustDeskModel_readRule_99 (by decide) ?_
                refine tr_iastR (k := 8) I634 R639 (I634.up h_o0) q649 t642 (by decide) (by decide) (fun lo hi h => by cases h; exact (by decide)) (Or.inl (by decide)) d_TrustDeskModel_readRule_117 (vp_in_iff.mpr (by have := R639.1 15 _ _ rfl; have := R639.1 16 _ _ rfl; have := R639.1 19 _ _ rfl; have := E643.f yS; omega)) (fun M1173 I1174 K1175 R1176 E1177 A1178 V1179 => ?_)
                have := V1179 15
                have := V1179 16
                have := V1179 17
                have := V1179 19
                have := V1179 22
                have := V1179 24
                have := A1178 5 (by decide) rfl 44
                have := A1178 6 (by decide) rfl 44
                have E1180 : rE M0 M1173 o0 0 1 := E643.same (fun k _ _ => V1179 k) (fun k h1 h2 => A1178 k (by omega) (by rcases (show k = 4 ∨ k = 5 by omega) with rfl | rfl <;> rfl))
                have := A1178 7 (by decide) rfl ((880 + ra M0 o0 6 44).toNat)
                have := A1178 10 (by decide) rfl ((880 + ra M0 o0 6 44).toNat)
                have h1181 : (880 + ra M0 o0 6 44).toNat = v34.toNatClampNeg := by have := mz_nat9 (i := v34) (by have := R639.1 15 _ _ rfl; have := R639.1 16 _ _ rfl; have := R639.1 19 _ _ rfl; have := E643.f yS; omega); have := R639.1 15 _ _ rfl; have := R639.1 16 _ _ rfl; have := R639.1 19 _ _ rfl; have := E643.f yS; omega
                have : ra M1173 o0 8 ((880 + ra M0 o0 6 44).toNat) = 2 := (E1177 _).trans (if_pos h1181)
                have K1182 : rK M0 M1173 o0 ((880 + ra M0 o0 6 44).toNat) := K644.st A1178 E1177 (by have := mz_nat9 (i := v34) (by have := R639.1 15 _ _ rfl; have := R639.1 16 _ _ rfl; have := R639.1 19 _ _ rfl; have := E643.f yS; omega); have := R639.1 15 _ _ rfl; have := R639.1 16 _ _ rfl; have := R639.1 19 _ _ rfl; have := E643.f yS; omega)
                have K1183 : nN M1173 o0 := K645.same (sA_a A1178 (by decide)) (sF_a V1179)
                refine mv_aload_n d_TrustDeskModel_readRule_118 rfl rfl ?_
                refine tr_getK (k := 8) (K1175 _ 13 8 _ q649) d_TrustDeskModel_readRule_119 f_TrustDeskModel_29_13 ?_
                refine mv_iload_n d_TrustDeskModel_readRule_122 rfl rfl ?_
                refine tr_ialdR (o := o0) (k := 8) I1174 (K1175 _ 13 8 _ q649) t642 (by decide) d_TrustDeskModel_readRule_123 (vp_in_iff.mpr (by have := R1176.1 15 _ _ rfl; have := R1176.1 16 _ _ rfl; have := R1176.1 19 _ _ rfl; have := E1180.f yS; omega)) (fun v1184 e1185 => ?_)
                have := R1176.a (k := 8) rfl (v34 : Int32).toNatClampNeg
                have h1186 : (880 + ra M0 o0 6 44).toNat = v34.toNatClampNeg := by have := mz_nat9 (i := v34) (by have := R1176.1 15 _ _ rfl; have := R1176.1 16 _ _ rfl; have := R1176.1 19 _ _ rfl; have := E1180.f yS; omega); have := R1176.1 15 _ _ rfl; have := R1176.1 16 _ _ rfl; have := R1176.1 19 _ _ rfl; have := E1180.f yS; omega
                have : v1184.toInt = ra M1173 o0 8 ((880 + ra M0 o0 6 44).toNat) := by rw [e1185, h1186]
                refine mv_iconst (v := (-1)) d_TrustDeskModel_readRule_124 (by decide) ?_
                have := mz_hi v1184
                refine mv_icmp_neZ (tgt := 133) (a := v1184.toInt) (b := (-1)) d_TrustDeskModel_readRule_125 (by decide) rfl (by decide) (fun b1187 => ?_) (fun b1187 => ?_)
                · refine mv_aload_n d_TrustDeskModel_readRule_133 rfl rfl ?_
                  obtain ⟨_, b1188, -⟩ := I1174.1 _ _ t641
                  refine mv_callV (kc1 := 0) (ks1 := 0) (kc' := 0) (ks' := 0) (As := []) (st9 := [.ref o0]) d_TrustDeskModel_readRule_134 lV_TrustDeskModel_230 b1188 rfl (mj_enter (by decide) (Nat.le_of_ble_eq_true rfl) ?_) rfl (Nat.le_of_ble_eq_true rfl) (Nat.le_of_ble_eq_true rfl) (Nat.le_of_ble_eq_true rfl) (hst := rfl) (fun _ _ _ h => h)
                  refine mv_aload_n d_TrustDeskModel_isWell_0 rfl rfl ?_
                  refine tr_getK (k := 19) (K1175 _ 13 19 _ q648) d_TrustDeskModel_isWell_1 f_TrustDeskModel_224_13 ?_
                  have := mz_hi v25
                  refine mv_if_neZ (tgt := 11) (a := v25.toInt) d_TrustDeskModel_isWell_4 (by decide) rfl (fun b1189 => absurd b1189 (by omega)) (fun b1189 => ?_)
                  refine mv_iconst (v := 1) d_TrustDeskModel_isWell_7 (by decide) ?_
                  refine mv_goto (tgt := 12) d_TrustDeskModel_isWell_8 (by decide) ?_
                  refine mv_iret d_TrustDeskModel_isWell_12 rfl (by decide) ?_
                  refine mv_if_eq_f (tgt := 144) d_TrustDeskModel_readRule_137 (by decide) (by decide) ?_
                  refine mv_aload_n d_TrustDeskModel_readRule_140 rfl rfl ?_
                  obtain ⟨_, b1196, -⟩ := I1174.1 _ _ t641
                  refine mv_callV (kc' := 0) (ks' := 0) (As := []) (st9 := [.ref o0]) d_TrustDeskModel_readRule_141 lV_TrustDeskModel_237 b1196 rfl (tc_TrustDeskModel_next_x (d := (d + 23)) (x9 := x9) (o0 := o0) t641 R1176 I1174.start) rfl (Nat.le_of_ble_eq_true rfl) (Nat.le_of_ble_eq_true rfl) (Nat.le_of_ble_eq_true rfl) (hst := rfl) (fun b1190r M1191 n1192 b1190 => ?_)
                  obtain ⟨T1193, J1194, rfl, R1197, f1198, f1199⟩ := b1190
                  have I1195 := I1174.call J1194 (tm_sub (by decide)) (Or.inl rfl)
                  have t1200 := J1194.up t641
                  have := (rv_c I1174 J1194 (I1174.up h_o0) (k := 19) rfl)
                  have := (rv_c I1174 J1194 (I1174.up h_o0) (k := 22) rfl)
                  have := (rv_c I1174 J1194 (I1174.up h_o0) (k := 24) rfl)
                  have := ra_call I1174 J1194 (I1174.up h_o0) (k := 5) rfl rfl rfl 44
                  have := ra_call I1174 J1194 (I1174.up h_o0) (k := 6) rfl rfl rfl 44
                  have h1202 : rv M1173 o0 16 + 1 ≤ rv M1173 o0 15 := (by have := R1176.1 15 _ _ rfl; have := R1176.1 16 _ _ rfl; have := R1176.1 19 _ _ rfl; have := E1180.f yS; omega)
                  have E1201 : rE M0 M1191 o0 0 2 := E1180.next f1198 f1199 (rv_c I1174 J1194 (I1174.up h_o0) (k := 19) rfl) (rE_ha I1174 J1194 (I1174.up h_o0) (by decide)) (e := 1) h1202 (by decide)
                  have := ra_call I1174 J1194 (I1174.up h_o0) (k := 7) rfl rfl rfl ((880 + ra M0 o0 6 44).toNat)
                  have := ra_call I1174 J1194 (I1174.up h_o0) (k := 10) rfl rfl rfl ((880 + ra M0 o0 6 44).toNat)
                  have := ra_call I1174 J1194 (I1174.up h_o0) (k := 8) rfl rfl rfl ((880 + ra M0 o0 6 44).toNat)
                  have K1203 : rK M0 M1191 o0 ((880 + ra M0 o0 6 44).toNat) := K1182.same (sA_c I1174 J1194 (I1174.up h_o0) (by decide))
                  have K1204 : nN M1191 o0 := K1183.same (sA_c I1174 J1194 (I1174.up h_o0) (by decide)) (sF_c I1174 J1194 (I1174.up h_o0) (by decide))
                  have q1205 := J1194.keep t641 (by decide) (K1175 _ 13 6 _ q646)
                  have t1206 := J1194.up t647
                  have q1207 := J1194.keep t641 (by decide) (K1175 _ 13 19 _ q648)
                  have q1208 := J1194.keep t641 (by decide) (K1175 _ 13 8 _ q649)
                  have t1209 := J1194.up t642
                  refine mv_aload_n d_TrustDeskModel_readRule_144 rfl rfl ?_
                  refine mv_ldcSw (id := 25) (tx := "if") d_TrustDeskModel_readRule_145 (List.mem_of_getElem? (i := 15) rfl) ?_
                  obtain ⟨_, b1216, -⟩ := I1195.1 _ _ t1200
                  refine mv_callV (kc' := 0) (ks' := 0) (As := [.ref 25]) (st9 := [.ref 25, .ref o0]) d_TrustDeskModel_readRule_148 lV_TrustDeskModel_329 b1216 rfl (tc_TrustDeskModel_wantWord_s1_25_x (d := (d + 19)) (x9 := x9) (o0 := o0) t1200 R1197 E1201.1 (by have := R1197.1 15 _ _ rfl; have := R1197.1 16 _ _ rfl; have := R1197.1 19 _ _ rfl; have := E1201.f yS; omega) I1195.start) rfl (Nat.le_of_ble_eq_true rfl) (Nat.le_of_ble_eq_true rfl) (Nat.le_of_ble_eq_true rfl) (hst := rfl) (fun b1210r M1211 n1212 b1210 => ?_)
                  obtain ⟨T1213, J1214, rfl, R1217, f1218⟩ := b1210
                  have I1215 := I1195.call J1214 (tm_sub (by decide)) (Or.inl rfl)
                  have t1219 := J1214.up t1200
                  have := (rv_c I1195 J1214 (I1195.up h_o0) (k := 22) rfl)
                  have := (rv_c I1195 J1214 (I1195.up h_o0) (k := 24) rfl)
                  have := ra_call I1195 J1214 (I1195.up h_o0) (k := 5) rfl rfl rfl 44
                  have := ra_call I1195 J1214 (I1195.up h_o0) (k := 6) rfl rfl rfl 44
                  have E1220 : rE M0 M1211 o0 0 3 := E1201.trans f1218 (by decide) (yR.2 5 _ _ rfl 44).1 (by decide) (by decide)
                  have := f1218.w
                  have := f1218.w2
                  have := ra_call I1195 J1214 (I1195.up h_o0) (k := 7) rfl rfl rfl ((880 + ra M0 o0 6 44).toNat)
                  have := ra_call I1195 J1214 (I1195.up h_o0) (k := 10) rfl rfl rfl ((880 + ra M0 o0 6 44).toNat)
                  have := ra_call I1195 J1214 (I1195.up h_o0) (k := 8) rfl rfl rfl ((880 + ra M0 o0 6 44).toNat)
                  have K1221 : rK M0 M1211 o0 ((880 + ra M0 o0 6 44).toNat) := K1203.same (sA_c I1195 J1214 (I1195.up h_o0) (by decide))
                  have K1222 : nN M1211 o0 := K1204.same (sA_c I1195 J1214 (I1195.up h_o0) (by decide)) (sF_c I1195 J1214 (I1195.up h_o0) (by decide))
                  have q1223 := J1214.keep t1200 (by decide) q1205
                  have t1224 := J1214.up t1206
                  have q1225 := J1214.keep t1200 (by decide) q1208
                  have t1226 := J1214.up t1209
                  refine mv_aload_n d_TrustDeskModel_readRule_151 rfl rfl ?_
                  obtain ⟨a1228, q1227, t_a1228⟩ := tm_atR I1215 t1219 (k := 11) rfl
                  refine tr_getK q1227 d_TrustDeskModel_readRule_152 f_TrustDeskModel_38_13 ?_
                  refine mv_iload_n d_TrustDeskModel_readRule_155 rfl rfl ?_
                  refine mv_aload_n d_TrustDeskModel_readRule_156 rfl rfl ?_
                  obtain ⟨a1230, q1229, t_a1230⟩ := tm_atR I1215 t1219 (k := 5) rfl
                  refine tr_getK q1229 d_TrustDeskModel_readRule_157 f_TrustDeskModel_20_13 ?_
                  refine mv_bipush (v := 44) d_TrustDeskModel_readRule_160 (by decide) ?_
                  refine tr_ialdR (o := o0) (k := 5) I1215 q1229 t_a1230 (by decide) d_TrustDeskModel_readRule_162 (by unfold vp_in; decide) (fun v1231 e1232 => ?_)
                  have := R1217.a (k := 5) rfl (44 : Int32).toNatClampNeg
                  have : v1231.toInt = ra M1211 o0 5 44 := e1232
                  refine tr_iastR (k := 11) I1215 R1217 (I1215.up h_o0) q1227 t_a1228 (by decide) (by decide) (fun lo hi h => by cases h; have := R1217.1 15 _ _ rfl; have := R1217.1 16 _ _ rfl; have := R1217.1 19 _ _ rfl; have := E1220.f yS; exact ⟨by show (0 : Int) ≤ v1231.toInt; omega, by show v1231.toInt ≤ (400 : Int); omega⟩) (Or.inl (by decide)) d_TrustDeskModel_readRule_163 (vp_in_iff.mpr (by have := R1217.1 15 _ _ rfl; have := R1217.1 16 _ _ rfl; have := R1217.1 19 _ _ rfl; have := E1220.f yS; omega)) (fun M1233 I1234 K1235 R1236 E1237 A1238 V1239 => ?_)
                  have := V1239 15
                  have := V1239 16
                  have := V1239 17
                  have := V1239 19
                  have := V1239 22
                  have := V1239 24
                  have := A1238 5 (by decide) rfl 44
                  have := A1238 6 (by decide) rfl 44
                  have E1240 : rE M0 M1233 o0 0 3 := E1220.same (fun k _ _ => V1239 k) (fun k h1 h2 => A1238 k (by omega) (by rcases (show k = 4 ∨ k = 5 by omega) with rfl | rfl <;> rfl))
                  have := A1238 7 (by decide) rfl ((880 + ra M0 o0 6 44).toNat)
                  have := A1238 10 (by decide) rfl ((880 + ra M0 o0 6 44).toNat)
                  have := A1238 8 (by decide) rfl ((880 + ra M0 o0 6 44).toNat)
                  have h1241 : (880 + ra M0 o0 6 44).toNat = v34.toNatClampNeg := by have := mz_nat9 (i := v34) (by have := R1217.1 15 _ _ rfl; have := R1217.1 16 _ _ rfl; have := R1217.1 19 _ _ rfl; have := E1220.f yS; omega); have := R1217.1 15 _ _ rfl; have := R1217.1 16 _ _ rfl; have := R1217.1 19 _ _ rfl; have := E1220.f yS; omega
                  have : ra M1233 o0 11 ((880 + ra M0 o0 6 44).toNat) = v1231.toInt := (E1237 _).trans (if_pos h1241)
                  have K1242 : rK M0 M1233 o0 ((880 + ra M0 o0 6 44).toNat) := K1221.st A1238 E1237 (by have := mz_nat9 (i := v34) (by have := R1217.1 15 _ _ rfl; have := R1217.1 16 _ _ rfl; have := R1217.1 19 _ _ rfl; have := E1220.f yS; omega); have := R1217.1 15 _ _ rfl; have := R1217.1 16 _ _ rfl; have := R1217.1 19 _ _ rfl; have := E1220.f yS; omega)
                  have K1243 : nN M1233 o0 := K1222.same (sA_a A1238 (by decide)) (sF_a V1239)
                  have F1244 : rE M1233 M1233 o0 0 0 := rE.rf E1240.1
                  refine mv_aload_n d_TrustDeskModel_readRule_164 rfl rfl ?_
                  obtain ⟨_, b1251, -⟩ := I1234.1 _ _ t1219
                  refine mv_callV (kc' := 0) (ks' := 0) (As := []) (st9 := [.ref o0]) d_TrustDeskModel_readRule_165 lV_TrustDeskModel_302 b1251 rfl (tc_TrustDeskModel_cond_q5_x (d := d) (x9 := x9) (o0 := o0) t1219 R1236 E1240.1 (by have := R1236.1 15 _ _ rfl; have := R1236.1 16 _ _ rfl; have := R1236.1 19 _ _ rfl; have := E1240.f yS; omega) (by have := R1236.1 15 _ _ rfl; have := R1236.1 16 _ _ rfl; have := R1236.1 19 _ _ rfl; have := E1240.f yS; omega) I1234.start) rfl (Nat.le_of_ble_eq_true rfl) (Nat.le_of_ble_eq_true rfl) (Nat.le_of_ble_eq_true rfl) (hst := rfl) (fun b1245r M1246 n1247 b1245 => ?_)
                  obtain ⟨T1248, J1249, rfl, R1252, f1253, f1254⟩ := b1245
                  have I1250 := I1234.call J1249 (tm_sub (by decide)) (Or.inl rfl)
                  have t1255 := J1249.up t1219
                  have := (rv_c I1234 J1249 (I1234.up h_o0) (k := 24) rfl)
                  have := ra_call I1234 J1249 (I1234.up h_o0) (k := 6) rfl rfl rfl 44
                  have E1256 : rE M0 M1246 o0 1 3 := E1240.trans f1253 (by decide) (yR.2 5 _ _ rfl 44).1 (by decide) (by decide)
                  have := f1253.w
                  have := f1253.w2
                  have := ra_call I1234 J1249 (I1234.up h_o0) (k := 7) rfl rfl rfl ((880 + ra M0 o0 6 44).toNat)
                  have := ra_call I1234 J1249 (I1234.up h_o0) (k := 10) rfl rfl rfl ((880 + ra M0 o0 6 44).toNat)
                  have := ra_call I1234 J1249 (I1234.up h_o0) (k := 8) rfl rfl rfl ((880 + ra M0 o0 6 44).toNat)
                  have := ra_call I1234 J1249 (I1234.up h_o0) (k := 11) rfl rfl rfl ((880 + ra M0 o0 6 44).toNat)
                  have K1257 : rK M0 M1246 o0 ((880 + ra M0 o0 6 44).toNat) := K1242.same (sA_c I1234 J1249 (I1234.up h_o0) (by decide))
                  have K1258 : nN M1246 o0 := K1243.same (sA_c I1234 J1249 (I1234.up h_o0) (by decide)) (sF_c I1234 J1249 (I1234.up h_o0) (by decide))
                  have F1259 : rE M1233 M1246 o0 1 0 := F1244.trans f1253 (by decide) (R1236.2 5 _ _ rfl 44).1 (by decide) (by decide)
                  have q1260 := J1249.keep t1219 (by decide) (K1235 _ 13 6 _ q1223)
                  have t1261 := J1249.up t1224
                  have q1262 := J1249.keep t1219 (by decide) (K1235 _ 13 8 _ q1225)
                  have t1263 := J1249.up t1226
                  have q1264 := J1249.keep t1219 (by decide) (K1235 _ 13 11 _ q1227)
                  have t1265 := J1249.up t_a1228
                  have q1266 := J1249.keep t1219 (by decide) (K1235 _ 13 5 _ q1229)
                  have t1267 := J1249.up t_a1230
                  refine mv_goto (tgt := 251) d_TrustDeskModel_readRule_168 (by decide) ?_
                  refine mv_aload_n d_TrustDeskModel_readRule_251 rfl rfl ?_
                  refine mv_bipush (v := 59) d_TrustDeskModel_readRule_252 (by decide) ?_
                  obtain ⟨_, b1274, -⟩ := I1250.1 _ _ t1255
                  have : (59 : Int32).toInt = 59 := by decide
                  refine mv_callV (kc' := 0) (ks' := 0) (As := [.int 59]) (st9 := [.int 59, .ref o0]) d_TrustDeskModel_readRule_254 lV_TrustDeskModel_291 b1274 rfl (tc_TrustDeskModel_wantSign_x (d := (d + 22)) (x9 := x9) (o0 := o0) (x1 := 59) t1255 R1252 E1256.1 (by have := R1252.1 15 _ _ rfl; have := R1252.1 16 _ _ rfl; have := R1252.1 19 _ _ rfl; have := E1256.f yS; omega) I1250.start) rfl (Nat.le_of_ble_eq_true rfl) (Nat.le_of_ble_eq_true rfl) (Nat.le_of_ble_eq_true rfl) (hst := rfl) (fun b1268r M1269 n1270 b1268 => ?_)
                  obtain ⟨T1271, J1272, rfl, R1275, f1276⟩ := b1268
                  have I1273 := I1250.call J1272 (tm_sub (by decide)) (Or.inl rfl)
                  have t1277 := J1272.up t1255
                  have := (rv_c I1250 J1272 (I1250.up h_o0) (k := 22) rfl)
                  have := (rv_c I1250 J1272 (I1250.up h_o0) (k := 24) rfl)
                  have := ra_call I1250 J1272 (I1250.up h_o0) (k := 5) rfl rfl rfl 44
                  have := ra_call I1250 J1272 (I1250.up h_o0) (k := 6) rfl rfl rfl 44
                  have E1278 : rE M0 M1269 o0 1 4 := E1256.trans f1276 (by decide) (yR.2 5 _ _ rfl 44).1 (by decide) (by decide)
                  have := f1276.w
                  have := f1276.w2
                  have := ra_call I1250 J1272 (I1250.up h_o0) (k := 7) rfl rfl rfl ((880 + ra M0 o0 6 44).toNat)
                  have := ra_call I1250 J1272 (I1250.up h_o0) (k := 10) rfl rfl rfl ((880 + ra M0 o0 6 44).toNat)
                  have := ra_call I1250 J1272 (I1250.up h_o0) (k := 8) rfl rfl rfl ((880 + ra M0 o0 6 44).toNat)
                  have := ra_call I1250 J1272 (I1250.up h_o0) (k := 11) rfl rfl rfl ((880 + ra M0 o0 6 44).toNat)
                  have K1279 : rK M0 M1269 o0 ((880 + ra M0 o0 6 44).toNat) := K1257.same (sA_c I1250 J1272 (I1250.up h_o0) (by decide))
                  have K1280 : nN M1269 o0 := K1258.same (sA_c I1250 J1272 (I1250.up h_o0) (by decide)) (sF_c I1250 J1272 (I1250.up h_o0) (by decide))
                  have F1281 : rE M1233 M1269 o0 1 1 := F1259.trans f1276 (by decide) (R1236.2 5 _ _ rfl 44).1 (by decide) (by decide)
                  have q1282 := J1272.keep t1255 (by decide) q1260
                  have t1283 := J1272.up t1261
                  have q1284 := J1272.keep t1255 (by decide) q1262
                  have t1285 := J1272.up t1263
                  have q1286 := J1272.keep t1255 (by decide) q1264
                  have t1287 := J1272.up t1265
                  have q1288 := J1272.keep t1255 (by decide) q1266
                  have t1289 := J1272.up t1267
                  refine mv_aload_n d_TrustDeskModel_readRule_257 rfl rfl ?_
                  obtain ⟨a1291, q1290, t_a1291⟩ := tm_atR I1273 t1277 (k := 12) rfl
                  refine tr_getK q1290 d_TrustDeskModel_readRule_258 f_TrustDeskModel_41_13 ?_
                  refine mv_iload_n d_TrustDeskModel_readRule_261 rfl rfl ?_
                  refine mv_aload_n d_TrustDeskModel_readRule_262 rfl rfl ?_
                  refine tr_getK (k := 5) q1288 d_TrustDeskModel_readRule_263 f_TrustDeskModel_20_13 ?_
                  refine mv_bipush (v := 44) d_TrustDeskModel_readRule_266 (by decide) ?_
                  refine tr_ialdR (o := o0) (k := 5) I1273 q1288 t1289 (by decide) d_TrustDeskModel_readRule_268 (by unfold vp_in; decide) (fun v1292 e1293 => ?_)
                  have := R1275.a (k := 5) rfl (44 : Int32).toNatClampNeg
                  have : v1292.toInt = ra M1269 o0 5 44 := e1293
                  refine tr_iastR (k := 12) I1273 R1275 (I1273.up h_o0) q1290 t_a1291 (by decide) (by decide) (fun lo hi h => by cases h; have := R1275.1 15 _ _ rfl; have := R1275.1 16 _ _ rfl; have := R1275.1 19 _ _ rfl; have := E1278.f yS; exact ⟨by show (0 : Int) ≤ v1292.toInt; omega, by show v1292.toInt ≤ (400 : Int); omega⟩) (Or.inl (by decide)) d_TrustDeskModel_readRule_269 (vp_in_iff.mpr (by have := R1275.1 15 _ _ rfl; have := R1275.1 16 _ _ rfl; have := R1275.1 19 _ _ rfl; have := E1278.f yS; omega)) (fun M1294 I1295 K1296 R1297 E1298 A1299 V1300 => ?_)
                  have := V1300 15
                  have := V1300 16
                  have := V1300 17
                  have := V1300 19
                  have := V1300 22
                  have := V1300 24
                  have := A1299 5 (by decide) rfl 44
                  have := A1299 6 (by decide) rfl 44
                  have E1301 : rE M0 M1294 o0 1 4 := E1278.same (fun k _ _ => V1300 k) (fun k h1 h2 => A1299 k (by omega) (by rcases (show k = 4 ∨ k = 5 by omega) with rfl | rfl <;> rfl))
                  have := A1299 7 (by decide) rfl ((880 + ra M0 o0 6 44).toNat)
                  have := A1299 10 (by decide) rfl ((880 + ra M0 o0 6 44).toNat)
                  have := A1299 8 (by decide) rfl ((880 + ra M0 o0 6 44).toNat)
                  have := A1299 11 (by decide) rfl ((880 + ra M0 o0 6 44).toNat)
                  have h1302 : (880 + ra M0 o0 6 44).toNat = v34.toNatClampNeg := by have := mz_nat9 (i := v34) (by have := R1275.1 15 _ _ rfl; have := R1275.1 16 _ _ rfl; have := R1275.1 19 _ _ rfl; have := E1278.f yS; omega); have := R1275.1 15 _ _ rfl; have := R1275.1 16 _ _ rfl; have := R1275.1 19 _ _ rfl; have := E1278.f yS; omega
                  have : ra M1294 o0 12 ((880 + ra M0 o0 6 44).toNat) = v1292.toInt := (E1298 _).trans (if_pos h1302)
                  have K1303 : rK M0 M1294 o0 ((880 + ra M0 o0 6 44).toNat) := K1279.st A1299 E1298 (by have := mz_nat9 (i := v34) (by have := R1275.1 15 _ _ rfl; have := R1275.1 16 _ _ rfl; have := R1275.1 19 _ _ rfl; have := E1278.f yS; omega); have := R1275.1 15 _ _ rfl; have := R1275.1 16 _ _ rfl; have := R1275.1 19 _ _ rfl; have := E1278.f yS; omega)
                  have K1304 : nN M1294 o0 := K1280.same (sA_a A1299 (by decide)) (sF_a V1300)
                  have F1305 : rE M1233 M1294 o0 1 1 := F1281.same (fun k _ _ => V1300 k) (fun k h1 h2 => A1299 k (by omega) (by rcases (show k = 4 ∨ k = 5 by omega) with rfl | rfl <;> rfl))
                  exact mv_vret d_TrustDeskModel_readRule_270 rfl ⟨_, I1295, rfl, R1297, (rW.of E1301.1 (fun w9 => (by have := R1297.1 15 _ _ rfl; have := R1297.1 16 _ _ rfl; have := R1297.1 19 _ _ rfl; have := E1301.f yS; omega)) (fun w9 => rG.step yG yR E1301 w9 K1303 (by have := yR.2 6 _ _ rfl 44; omega) (by have := R1297.1 15 _ _ rfl; have := R1297.1 16 _ _ rfl; have := R1297.1 19 _ _ rfl; have := E1301.f yS; omega) (by have := R1297.1 15 _ _ rfl; have := R1297.1 16 _ _ rfl; have := R1297.1 19 _ _ rfl; have := E1301.f yS; omega) (fun _ => rowN.of E1240 F1305 w9 (by decide) (by decide) (yR.2 5 _ _ rfl 44).1 (by have := R1297.1 15 _ _ rfl; have := R1297.1 16 _ _ rfl; have := R1297.1 19 _ _ rfl; have := E1301.f yS; omega) (by have := R1297.1 15 _ _ rfl; have := R1297.1 16 _ _ rfl; have := R1297.1 19 _ _ rfl; have := E1301.f yS; omega) (by have := R1297.1 15 _ _ rfl; have := R1297.1 16 _ _ rfl; have := R1297.1 19 _ _ rfl; have := E1301.f yS; omega)) (fun h9 => (by have := R1297.1 15 _ _ rfl; have := R1297.1 16 _ _ rfl; have := R1297.1 19 _ _ rfl; have := E1301.f yS; omega)) (by have := R1297.1 15 _ _ rfl; have := R1297.1 16 _ _ rfl; have := R1297.1 19 _ _ rfl; have := E1301.f yS; omega) K1304)), (rO.of E1301 K1303 (by have := yR.2 6 _ _ rfl 44; omega)), (by have := R1297.1 15 _ _ rfl; have := R1297.1 16 _ _ rfl; have := R1297.1 19 _ _ rfl; have := E1301.f yS; omega), (by have := R1297.1 15 _ _ rfl; have := R1297.1 16 _ _ rfl; have := R1297.1 19 _ _ rfl; have := E1301.f yS; omega)⟩
                · refine mv_aload_n d_TrustDeskModel_readRule_128 rfl rfl ?_
                  refine mv_iconst (v := 1) d_TrustDeskModel_readRule_129 (by decide) ?_
                  obtain ⟨_, b1312, -⟩ := I1174.1 _ _ t641
                  have : (1 : Int32).toInt = 1 := by decide
                  refine mv_callV (kc' := 0) (ks' := 0) (As := [.int 1]) (st9 := [.int 1, .ref o0]) d_TrustDeskModel_readRule_130 lV_TrustDeskModel_240 b1312 rfl (tc_TrustDeskModel_fails_x (d := (d + 24)) (x9 := x9) (o0 := o0) (x1 := 1) t641 R1176 (by decide) I1174.start) rfl (Nat.le_of_ble_eq_true rfl) (Nat.le_of_ble_eq_true rfl) (Nat.le_of_ble_eq_true rfl) (hst := rfl) (fun b1306r M1307 n1308 b1306 => ?_)
                  obtain ⟨T1309, J1310, rfl, R1313, f1314⟩ := b1306
                  have I1311 := I1174.call J1310 (tm_sub (by decide)) (Or.inl rfl)
                  have t1315 := J1310.up t641
                  have := (rv_c I1174 J1310 (I1174.up h_o0) (k := 15) rfl)
                  have := (rv_c I1174 J1310 (I1174.up h_o0) (k := 16) rfl)
                  have := (rv_c I1174 J1310 (I1174.up h_o0) (k := 17) rfl)
                  have := (rv_c I1174 J1310 (I1174.up h_o0) (k := 22) rfl)
                  have := (rv_c I1174 J1310 (I1174.up h_o0) (k := 24) rfl)
                  have := ra_call I1174 J1310 (I1174.up h_o0) (k := 5) rfl rfl rfl 44
                  have := ra_call I1174 J1310 (I1174.up h_o0) (k := 6) rfl rfl rfl 44
                  have E1316 : rE M0 M1307 o0 0 1 := E1180.fails (rE_hv I1174 J1310 (I1174.up h_o0) 15 18 (by decide)) (rE_ha I1174 J1310 (I1174.up h_o0) (by decide)) f1314 0 1
                  have := ra_call I1174 J1310 (I1174.up h_o0) (k := 7) rfl rfl rfl ((880 + ra M0 o0 6 44).toNat)
                  have := ra_call I1174 J1310 (I1174.up h_o0) (k := 10) rfl rfl rfl ((880 + ra M0 o0 6 44).toNat)
                  have := ra_call I1174 J1310 (I1174.up h_o0) (k := 8) rfl rfl rfl ((880 + ra M0 o0 6 44).toNat)
                  have K1317 : rK M0 M1307 o0 ((880 + ra M0 o0 6 44).toNat) := K1182.same (sA_c I1174 J1310 (I1174.up h_o0) (by decide))
                  have K1318 : nN M1307 o0 := K1183.same (sA_c I1174 J1310 (I1174.up h_o0) (by decide)) (sF_c I1174 J1310 (I1174.up h_o0) (by decide))
                  have q1319 := J1310.keep t641 (by decide) (K1175 _ 13 6 _ q646)
                  have t1320 := J1310.up t647
                  have q1321 := J1310.keep t641 (by decide) (K1175 _ 13 8 _ q649)
                  have t1322 := J1310.up t642
                  refine mv_aload_n d_TrustDeskModel_readRule_133 rfl rfl ?_
                  obtain ⟨_, b1323, -⟩ := I1311.1 _ _ t1315
                  refine mv_callV (kc1 := 0) (ks1 := 0) (kc' := 0) (ks' := 0) (As := []) (st9 := [.ref o0]) d_TrustDeskModel_readRule_134 lV_TrustDeskModel_230 b1323 rfl (mj_enter (by decide) (Nat.le_of_ble_eq_true rfl) ?_) rfl (Nat.le_of_ble_eq_true rfl) (Nat.le_of_ble_eq_true rfl) (Nat.le_of_ble_eq_true rfl) (hst := rfl) (fun _ _ _ h => h)
                  refine mv_aload_n d_TrustDeskModel_isWell_0 rfl rfl ?_
                  obtain ⟨v1325, q1324⟩ := tm_atI I1311 t1315 (k := 19) rfl
                  refine tr_getK q1324 d_TrustDeskModel_isWell_1 f_TrustDeskModel_224_13 ?_
                  have := R1313.f (k := 19) q1324 rfl
                  have := tm_rv q1324
                  refine mv_if_neZ (tgt := 11) (a := v1325.toInt) d_TrustDeskModel_isWell_4 (by decide) rfl (fun b1326 => ?_) (fun b1326 => ?_)
                  · refine mv_iconst (v := 0) d_TrustDeskModel_isWell_11 (by decide) ?_
                    refine mv_iret d_TrustDeskModel_isWell_12 rfl (by decide) ?_
                    refine mv_if_eq_t (tgt := 144) d_TrustDeskModel_readRule_137 (by decide) (by decide) ?_
                    refine mv_aload_n d_TrustDeskModel_readRule_144 rfl rfl ?_
                    refine mv_ldcSw (id := 25) (tx := "if") d_TrustDeskModel_readRule_145 (List.mem_of_getElem? (i := 15) rfl) ?_
                    obtain ⟨_, b1333, -⟩ := I1311.1 _ _ t1315
                    refine mv_callV (kc' := 0) (ks' := 0) (As := [.ref 25]) (st9 := [.ref 25, .ref o0]) d_TrustDeskModel_readRule_148 lV_TrustDeskModel_329 b1333 rfl (tc_TrustDeskModel_wantWord_s1_25_x (d := (d + 19)) (x9 := x9) (o0 := o0) t1315 R1313 E1316.1 (by have := R1313.1 15 _ _ rfl; have := R1313.1 16 _ _ rfl; have := R1313.1 19 _ _ rfl; have := E1316.f yS; omega) I1311.start) rfl (Nat.le_of_ble_eq_true rfl) (Nat.le_of_ble_eq_true rfl) (Nat.le_of_ble_eq_true rfl) (hst := rfl) (fun b1327r M1328 n1329 b1327 => ?_)
                    obtain ⟨T1330, J1331, rfl, R1334, f1335⟩ := b1327
                    have I1332 := I1311.call J1331 (tm_sub (by decide)) (Or.inl rfl)
                    have t1336 := J1331.up t1315
                    have := (rv_c I1311 J1331 (I1311.up h_o0) (k := 22) rfl)
                    have := (rv_c I1311 J1331 (I1311.up h_o0) (k := 24) rfl)
                    have := ra_call I1311 J1331 (I1311.up h_o0) (k := 5) rfl rfl rfl 44
                    have := ra_call I1311 J1331 (I1311.up h_o0) (k := 6) rfl rfl rfl 44
                    have E1337 : rE M0 M1328 o0 0 2 := E1316.trans f1335 (by decide) (yR.2 5 _ _ rfl 44).1 (by decide) (by decide)
                    have := f1335.w
                    have := f1335.w2
                    have := ra_call I1311 J1331 (I1311.up h_o0) (k := 7) rfl rfl rfl ((880 + ra M0 o0 6 44).toNat)
                    have := ra_call I1311 J1331 (I1311.up h_o0) (k := 10) rfl rfl rfl ((880 + ra M0 o0 6 44).toNat)
                    have := ra_call I1311 J1331 (I1311.up h_o0) (k := 8) rfl rfl rfl ((880 + ra M0 o0 6 44).toNat)
                    have K1338 : rK M0 M1328 o0 ((880 + ra M0 o0 6 44).toNat) := K1317.same (sA_c I1311 J1331 (I1311.up h_o0) (by decide))
                    have K1339 : nN M1328 o0 := K1318.same (sA_c I1311 J1331 (I1311.up h_o0) (by decide)) (sF_c I1311 J1331 (I1311.up h_o0) (by decide))
                    have q1340 := J1331.keep t1315 (by decide) q1319
                    have t1341 := J1331.up t1320
                    have q1342 := J1331.keep t1315 (by decide) q1321
                    have t1343 := J1331.up t1322
                    refine mv_aload_n d_TrustDeskModel_readRule_151 rfl rfl ?_
                    obtain ⟨a1345, q1344, t_a1345⟩ := tm_atR I1332 t1336 (k := 11) rfl
                    refine tr_getK q1344 d_TrustDeskModel_readRule_152 f_TrustDeskModel_38_13 ?_
                    refine mv_iload_n d_TrustDeskModel_readRule_155 rfl rfl ?_
                    refine mv_aload_n d_TrustDeskModel_readRule_156 rfl rfl ?_
                    obtain ⟨a1347, q1346, t_a1347⟩ := tm_atR I1332 t1336 (k := 5) rfl
                    refine tr_getK q1346 d_TrustDeskModel_readRule_157 f_TrustDeskModel_20_13 ?_
                    refine mv_bipush (v := 44) d_TrustDeskModel_readRule_160 (by decide) ?_
                    refine tr_ialdR (o := o0) (k := 5) I1332 q1346 t_a1347 (by decide) d_TrustDeskModel_readRule_162 (by unfold vp_in; decide) (fun v1348 e1349 => ?_)
                    have := R1334.a (k := 5) rfl (44 : Int32).toNatClampNeg
                    have : v1348.toInt = ra M1328 o0 5 44 := e1349
                    refine tr_iastR (k := 11) I1332 R1334 (I1332.up h_o0) q1344 t_a1345 (by decide) (by decide) (fun lo hi h => by cases h; have := R1334.1 15 _ _ rfl; have := R1334.1 16 _ _ rfl; have := R1334.1 19 _ _ rfl; have := E1337.f yS; exact ⟨by show (0 : Int) ≤ v1348.toInt; omega, by show v1348.toInt ≤ (400 : Int); omega⟩) (Or.inl (by decide)) d_TrustDeskModel_readRule_163 (vp_in_iff.mpr (by have := R1334.1 15 _ _ rfl; have := R1334.1 16 _ _ rfl; have := R1334.1 19 _ _ rfl; have := E1337.f yS; omega)) (fun M1350 I1351 K1352 R1353 E1354 A1355 V1356 => ?_)
                    have := V1356 15
                    have := V1356 16
                    have := V1356 17
                    have := V1356 19
                    have := V1356 22
                    have := V1356 24
                    have := A1355 5 (by decide) rfl 44
                    have := A1355 6 (by decide) rfl 44
                    have E1357 : rE M0 M1350 o0 0 2 := E1337.same (fun k _ _ => V1356 k) (fun k h1 h2 => A1355 k (by omega) (by rcases (show k = 4 ∨ k = 5 by omega) with rfl | rfl <;> rfl))
                    have := A1355 7 (by decide) rfl ((880 + ra M0 o0 6 44).toNat)
                    have := A1355 10 (by decide) rfl ((880 + ra M0 o0 6 44).toNat)
                    have := A1355 8 (by decide) rfl ((880 + ra M0 o0 6 44).toNat)
                    have h1358 : (880 + ra M0 o0 6 44).toNat = v34.toNatClampNeg := by have := mz_nat9 (i := v34) (by have := R1334.1 15 _ _ rfl; have := R1334.1 16 _ _ rfl; have := R1334.1 19 _ _ rfl; have := E1337.f yS; omega); have := R1334.1 15 _ _ rfl; have := R1334.1 16 _ _ rfl; have := R1334.1 19 _ _ rfl; have := E1337.f yS; omega
                    have : ra M1350 o0 11 ((880 + ra M0 o0 6 44).toNat) = v1348.toInt := (E1354 _).trans (if_pos h1358)
                    have K1359 : rK M0 M1350 o0 ((880 + ra M0 o0 6 44).toNat) := K1338.st A1355 E1354 (by have := mz_nat9 (i := v34) (by have := R1334.1 15 _ _ rfl; have := R1334.1 16 _ _ rfl; have := R1334.1 19 _ _ rfl; have := E1337.f yS; omega); have := R1334.1 15 _ _ rfl; have := R1334.1 16 _ _ rfl; have := R1334.1 19 _ _ rfl; have := E1337.f yS; omega)
                    have K1360 : nN M1350 o0 := K1339.same (sA_a A1355 (by decide)) (sF_a V1356)
                    have F1361 : rE M1350 M1350 o0 0 0 := rE.rf E1357.1
                    refine mv_aload_n d_TrustDeskModel_readRule_164 rfl rfl ?_
                    obtain ⟨_, b1368, -⟩ := I1351.1 _ _ t1336
                    refine mv_callV (kc' := 0) (ks' := 0) (As := []) (st9 := [.ref o0]) d_TrustDeskModel_readRule_165 lV_TrustDeskModel_302 b1368 rfl (tc_TrustDeskModel_cond_q5_x (d := d) (x9 := x9) (o0 := o0) t1336 R1353 E1357.1 (by have := R1353.1 15 _ _ rfl; have := R1353.1 16 _ _ rfl; have := R1353.1 19 _ _ rfl; have := E1357.f yS; omega) (by have := R1353.1 15 _ _ rfl; have := R1353.1 16 _ _ rfl; have := R1353.1 19 _ _ rfl; have := E1357.f yS; omega) I1351.start) rfl (Nat.le_of_ble_eq_true rfl) (Nat.le_of_ble_eq_true rfl) (Nat.le_of_ble_eq_true rfl) (hst := rfl) (fun b1362r M1363 n1364 b1362 => ?_)
                    obtain ⟨T1365, J1366, rfl, R1369, f1370, f1371⟩ := b1362
                    have I1367 := I1351.call J1366 (tm_sub (by decide)) (Or.inl rfl)
                    have t1372 := J1366.up t1336
                    have := (rv_c I1351 J1366 (I1351.up h_o0) (k := 24) rfl)
                    have := ra_call I1351 J1366 (I1351.up h_o0) (k := 6) rfl rfl rfl 44
                    have E1373 : rE M0 M1363 o0 1 2 := E1357.trans f1370 (by decide) (yR.2 5 _ _ rfl 44).1 (by decide) (by decide)
                    have := f1370.w
                    have := f1370.w2
                    have := ra_call I1351 J1366 (I1351.up h_o0) (k := 7) rfl rfl rfl ((880 + ra M0 o0 6 44).toNat)
                    have := ra_call I1351 J1366 (I1351.up h_o0) (k := 10) rfl rfl rfl ((880 + ra M0 o0 6 44).toNat)
                    have := ra_call I1351 J1366 (I1351.up h_o0) (k := 8) rfl rfl rfl ((880 + ra M0 o0 6 44).toNat)
                    have := ra_call I1351 J1366 (I1351.up h_o0) (k := 11) rfl rfl rfl ((880 + ra M0 o0 6 44).toNat)
                    have K1374 : rK M0 M1363 o0 ((880 + ra M0 o0 6 44).toNat) := K1359.same (sA_c I1351 J1366 (I1351.up h_o0) (by decide))
                    have K1375 : nN M1363 o0 := K1360.same (sA_c I1351 J1366 (I1351.up h_o0) (by decide)) (sF_c I1351 J1366 (I1351.up h_o0) (by decide))
                    have F1376 : rE M1350 M1363 o0 1 0 := F1361.trans f1370 (by decide) (R1353.2 5 _ _ rfl 44).1 (by decide) (by decide)
                    have q1377 := J1366.keep t1336 (by decide) (K1352 _ 13 6 _ q1340)
                    have t1378 := J1366.up t1341
                    have q1379 := J1366.keep t1336 (by decide) (K1352 _ 13 8 _ q1342)
                    have t1380 := J1366.up t1343
                    have q1381 := J1366.keep t1336 (by decide) (K1352 _ 13 11 _ q1344)
                    have t1382 := J1366.up t_a1345
                    have q1383 := J1366.keep t1336 (by decide) (K1352 _ 13 5 _ q1346)
                    have t1384 := J1366.up t_a1347
                    refine mv_goto (tgt := 251) d_TrustDeskModel_readRule_168 (by decide) ?_
                    refine mv_aload_n d_TrustDeskModel_readRule_251 rfl rfl ?_
                    refine mv_bipush (v := 59) d_TrustDeskModel_readRule_252 (by decide) ?_
                    obtain ⟨_, b1391, -⟩ := I1367.1 _ _ t1372
                    have : (59 : Int32).toInt = 59 := by decide
                    refine mv_callV (kc' := 0) (ks' := 0) (As := [.int 59]) (st9 := [.int 59, .ref o0]) d_TrustDeskModel_readRule_254 lV_TrustDeskModel_291 b1391 rfl (tc_TrustDeskModel_wantSign_x (d := (d + 22)) (x9 := x9) (o0 := o0) (x1 := 59) t1372 R1369 E1373.1 (by have := R1369.1 15 _ _ rfl; have := R1369.1 16 _ _ rfl; have := R1369.1 19 _ _ rfl; have := E1373.f yS; omega) I1367.start) rfl (Nat.le_of_ble_eq_true rfl) (Nat.le_of_ble_eq_true rfl) (Nat.le_of_ble_eq_true rfl) (hst := rfl) (fun b1385r M1386 n1387 b1385 => ?_)
                    obtain ⟨T1388, J1389, rfl, R1392, f1393⟩ := b1385
                    have I1390 := I1367.call J1389 (tm_sub (by decide)) (Or.inl rfl)
                    have t1394 := J1389.up t1372
                    have := (rv_c I1367 J1389 (I1367.up h_o0) (k := 22) rfl)
                    have := (rv_c I1367 J1389 (I1367.up h_o0) (k := 24) rfl)
                    have := ra_call I1367 J1389 (I1367.up h_o0) (k := 5) rfl rfl rfl 44
                    have := ra_call I1367 J1389 (I1367.up h_o0) (k := 6) rfl rfl rfl 44
                    have E1395 : rE M0 M1386 o0 1 3 := E1373.trans f1393 (by decide) (yR.2 5 _ _ rfl 44).1 (by decide) (by decide)
                    have := f1393.w
                    have := f1393.w2
                    have := ra_call I1367 J1389 (I1367.up h_o0) (k := 7) rfl rfl rfl ((880 + ra M0 o0 6 44).toNat)
                    have := ra_call I1367 J1389 (I1367.up h_o0) (k := 10) rfl rfl rfl ((880 + ra M0 o0 6 44).toNat)
                    have := ra_call I1367 J1389 (I1367.up h_o0) (k := 8) rfl rfl rfl ((880 + ra M0 o0 6 44).toNat)
                    have := ra_call I1367 J1389 (I1367.up h_o0) (k := 11) rfl rfl rfl ((880 + ra M0 o0 6 44).toNat)
                    have K1396 : rK M0 M1386 o0 ((880 + ra M0 o0 6 44).toNat) := K1374.same (sA_c I1367 J1389 (I1367.up h_o0) (by decide))
                    have K1397 : nN M1386 o0 := K1375.same (sA_c I1367 J1389 (I1367.up h_o0) (by decide)) (sF_c I1367 J1389 (I1367.up h_o0) (by decide))
                    have F1398 : rE M1350 M1386 o0 1 1 := F1376.trans f1393 (by decide) (R1353.2 5 _ _ rfl 44).1 (by decide) (by decide)
                    have q1399 := J1389.keep t1372 (by decide) q1377
                    have t1400 := J1389.up t1378
                    have q1401 := J1389.keep t1372 (by decide) q1379
                    have t1402 := J1389.up t1380
                    have q1403 := J1389.keep t1372 (by decide) q1381
                    have t1404 := J1389.up t1382
                    have q1405 := J1389.keep t1372 (by decide) q1383
                    have t1406 := J1389.up t1384
                    refine mv_aload_n d_TrustDeskModel_readRule_257 rfl rfl ?_
                    obtain ⟨a1408, q1407, t_a1408⟩ := tm_atR I1390 t1394 (k := 12) rfl
                    refine tr_getK q1407 d_TrustDeskModel_readRule_258 f_TrustDeskModel_41_13 ?_
                    refine mv_iload_n d_TrustDeskModel_readRule_261 rfl rfl ?_
                    refine mv_aload_n d_TrustDeskModel_readRule_262 rfl rfl ?_
                    refine tr_getK (k := 5) q1405 d_TrustDeskModel_readRule_263 f_TrustDeskModel_20_13 ?_
                    refine mv_bipush (v := 44) d_TrustDeskModel_readRule_266 (by decide) ?_
                    refine tr_ialdR (o := o0) (k := 5) I1390 q1405 t1406 (by decide) d_TrustDeskModel_readRule_268 (by unfold vp_in; decide) (fun v1409 e1410 => ?_)
                    have := R1392.a (k := 5) rfl (44 : Int32).toNatClampNeg
                    have : v1409.toInt = ra M1386 o0 5 44 := e1410
                    refine tr_iastR (k := 12) I1390 R1392 (I1390.up h_o0) q1407 t_a1408 (by decide) (by decide) (fun lo hi h => by cases h; have := R1392.1 15 _ _ rfl; have := R1392.1 16 _ _ rfl; have := R1392.1 19 _ _ rfl; have := E1395.f yS; exact ⟨by show (0 : Int) ≤ v1409.toInt; omega, by show v1409.toInt ≤ (400 : Int); omega⟩) (Or.inl (by decide)) d_TrustDeskModel_readRule_269 (vp_in_iff.mpr (by have := R1392.1 15 _ _ rfl; have := R1392.1 16 _ _ rfl; have := R1392.1 19 _ _ rfl; have := E1395.f yS; omega)) (fun M1411 I1412 K1413 R1414 E1415 A1416 V1417 => ?_)
                    have := V1417 15
                    have := V1417 16
                    have := V1417 17
                    have := V1417 19
                    have := V1417 22
                    have := V1417 24
                    have := A1416 5 (by decide) rfl 44
                    have := A1416 6 (by decide) rfl 44
                    have E1418 : rE M0 M1411 o0 1 3 := E1395.same (fun k _ _ => V1417 k) (fun k h1 h2 => A1416 k (by omega) (by rcases (show k = 4 ∨ k = 5 by omega) with rfl | rfl <;> rfl))
                    have := A1416 7 (by decide) rfl ((880 + ra M0 o0 6 44).toNat)
                    have := A1416 10 (by decide) rfl ((880 + ra M0 o0 6 44).toNat)
                    have := A1416 8 (by decide) rfl ((880 + ra M0 o0 6 44).toNat)
                    have := A1416 11 (by decide) rfl ((880 + ra M0 o0 6 44).toNat)
                    have h1419 : (880 + ra M0 o0 6 44).toNat = v34.toNatClampNeg := by have := mz_nat9 (i := v34) (by have := R1392.1 15 _ _ rfl; have := R1392.1 16 _ _ rfl; have := R1392.1 19 _ _ rfl; have := E1395.f yS; omega); have := R1392.1 15 _ _ rfl; have := R1392.1 16 _ _ rfl; have := R1392.1 19 _ _ rfl; have := E1395.f yS; omega
                    have : ra M1411 o0 12 ((880 + ra M0 o0 6 44).toNat) = v1409.toInt := (E1415 _).trans (if_pos h1419)
                    have K1420 : rK M0 M1411 o0 ((880 + ra M0 o0 6 44).toNat) := K1396.st A1416 E1415 (by have := mz_nat9 (i := v34) (by have := R1392.1 15 _ _ rfl; have := R1392.1 16 _ _ rfl; have := R1392.1 19 _ _ rfl; have := E1395.f yS; omega); have := R1392.1 15 _ _ rfl; have := R1392.1 16 _ _ rfl; have := R1392.1 19 _ _ rfl; have := E1395.f yS; omega)
                    have K1421 : nN M1411 o0 := K1397.same (sA_a A1416 (by decide)) (sF_a V1417)
                    have F1422 : rE M1350 M1411 o0 1 1 := F1398.same (fun k _ _ => V1417 k) (fun k h1 h2 => A1416 k (by omega) (by rcases (show k = 4 ∨ k = 5 by omega) with rfl | rfl <;> rfl))
                    exact mv_vret d_TrustDeskModel_readRule_270 rfl ⟨_, I1412, rfl, R1414, (rW.of E1418.1 (fun h9 => absurd h9 (by have := R1414.1 15 _ _ rfl; have := R1414.1 16 _ _ rfl; have := R1414.1 19 _ _ rfl; have := E1418.f yS; omega)) (fun h9 => absurd h9 (by have := R1414.1 15 _ _ rfl; have := R1414.1 16 _ _ rfl; have := R1414.1 19 _ _ rfl; have := E1418.f yS; omega))), (rO.of E1418 K1420 (by have := yR.2 6 _ _ rfl 44; omega)), (by have := R1414.1 15 _ _ rfl; have := R1414.1 16 _ _ rfl; have := R1414.1 19 _ _ rfl; have := E1418.f yS; omega), (by have := R1414.1 15 _ _ rfl; have := R1414.1 16 _ _ rfl; have := R1414.1 19 _ _ rfl; have := E1418.f yS; omega)⟩
                  · exfalso
                    have := R1313.1 15 _ _ rfl; have := R1313.1 16 _ _ rfl; have := R1313.1 19 _ _ rfl; have := E1316.f yS; omega
            · refine mv_iconst (v := 1) d_TrustDeskModel_readRule_84 (by decide) ?_
              refine mv_goto (tgt := 117) d_TrustDeskModel_readRule_85 (by decide) ?_
              refine tr_iastR (k := 8) I612 R617 (I612.up h_o0) q627 t620 (by decide) (by decide) (fun lo hi h => by cases h; exact (by decide)) (Or.inl (by decide)) d_TrustDeskModel_readRule_117 (vp_in_iff.mpr (by have := R617.1 15 _ _ rfl; have := R617.1 16 _ _ rfl; have := R617.1 19 _ _ rfl; have := E621.f yS; omega)) (fun M1423 I1424 K1425 R1426 E1427 A1428 V1429 => ?_)
              have := V1429 15
              have := V1429 16
              have := V1429 17
              have := V1429 19
              have := V1429 22
              have := V1429 24
              have := A1428 5 (by decide) rfl 44
              have := A1428 6 (by decide) rfl 44
              have E1430 : rE M0 M1423 o0 0 1 := E621.same (fun k _ _ => V1429 k) (fun k h1 h2 => A1428 k (by omega) (by rcases (show k = 4 ∨ k = 5 by omega) with rfl | rfl <;> rfl))
              have := A1428 7 (by decide) rfl ((880 + ra M0 o0 6 44).toNat)
              have := A1428 10 (by decide) rfl ((880 + ra M0 o0 6 44).toNat)
              have h1431 : (880 + ra M0 o0 6 44).toNat = v34.toNatClampNeg := by have := mz_nat9 (i := v34) (by have := R617.1 15 _ _ rfl; have := R617.1 16 _ _ rfl; have := R617.1 19 _ _ rfl; have := E621.f yS; omega); have := R617.1 15 _ _ rfl; have := R617.1 16 _ _ rfl; have := R617.1 19 _ _ rfl; have := E621.f yS; omega
              have : ra M1423 o0 8 ((880 + ra M0 o0 6 44).toNat) = 1 := (E1427 _).trans (if_pos h1431)
              have K1432 : rK M0 M1423 o0 ((880 + ra M0 o0 6 44).toNat) := K622.st A1428 E1427 (by have := mz_nat9 (i := v34) (by have := R617.1 15 _ _ rfl; have := R617.1 16 _ _ rfl; have := R617.1 19 _ _ rfl; have := E621.f yS; omega); have := R617.1 15 _ _ rfl; have := R617.1 16 _ _ rfl; have := R617.1 19 _ _ rfl; have := E621.f yS; omega)
              have K1433 : nN M1423 o0 := K623.same (sA_a A1428 (by decide)) (sF_a V1429)
              refine mv_aload_n d_TrustDeskModel_readRule_118 rfl rfl ?_
              refine tr_getK (k := 8) (K1425 _ 13 8 _ q627) d_TrustDeskModel_readRule_119 f_TrustDeskModel_29_13 ?_
              refine mv_iload_n d_TrustDeskModel_readRule_122 rfl rfl ?_
              refine tr_ialdR (o := o0) (k := 8) I1424 (K1425 _ 13 8 _ q627) t620 (by decide) d_TrustDeskModel_readRule_123 (vp_in_iff.mpr (by have := R1426.1 15 _ _ rfl; have := R1426.1 16 _ _ rfl; have := R1426.1 19 _ _ rfl; have := E1430.f yS; omega)) (fun v1434 e1435 => ?_)
              have := R1426.a (k := 8) rfl (v34 : Int32).toNatClampNeg
              have h1436 : (880 + ra M0 o0 6 44).toNat = v34.toNatClampNeg := by have := mz_nat9 (i := v34) (by have := R1426.1 15 _ _ rfl; have := R1426.1 16 _ _ rfl; have := R1426.1 19 _ _ rfl; have := E1430.f yS; omega); have := R1426.1 15 _ _ rfl; have := R1426.1 16 _ _ rfl; have := R1426.1 19 _ _ rfl; have := E1430.f yS; omega
              have : v1434.toInt = ra M1423 o0 8 ((880 + ra M0 o0 6 44).toNat) := by rw [e1435, h1436]
              refine mv_iconst (v := (-1)) d_TrustDeskModel_readRule_124 (by decide) ?_
              have := mz_hi v1434
              refine mv_icmp_neZ (tgt := 133) (a := v1434.toInt) (b := (-1)) d_TrustDeskModel_readRule_125 (by decide) rfl (by decide) (fun b1437 => ?_) (fun b1437 => ?_)
              · refine mv_aload_n d_TrustDeskModel_readRule_133 rfl rfl ?_
                obtain ⟨_, b1438, -⟩ := I1424.1 _ _ t619
                refine mv_callV (kc1 := 0) (ks1 := 0) (kc' := 0) (ks' := 0) (As := []) (st9 := [.ref o0]) d_TrustDeskModel_readRule_134 lV_TrustDeskModel_230 b1438 rfl (mj_enter (by decide) (Nat.le_of_ble_eq_true rfl) ?_) rfl (Nat.le_of_ble_eq_true rfl) (Nat.le_of_ble_eq_true rfl) (Nat.le_of_ble_eq_true rfl) (hst := rfl) (fun _ _ _ h => h)
                refine mv_aload_n d_TrustDeskModel_isWell_0 rfl rfl ?_
                refine tr_getK (k := 19) (K1425 _ 13 19 _ q626) d_TrustDeskModel_isWell_1 f_TrustDeskModel_224_13 ?_
                have := mz_hi v25
                refine mv_if_neZ (tgt := 11) (a := v25.toInt) d_TrustDeskModel_isWell_4 (by decide) rfl (fun b1439 => absurd b1439 (by omega)) (fun b1439 => ?_)
                refine mv_iconst (v := 1) d_TrustDeskModel_isWell_7 (by decide) ?_
                refine mv_goto (tgt := 12) d_TrustDeskModel_isWell_8 (by decide) ?_
                refine mv_iret d_TrustDeskModel_isWell_12 rfl (by decide) ?_
                refine mv_if_eq_f (tgt := 144) d_TrustDeskModel_readRule_137 (by decide) (by decide) ?_
                refine mv_aload_n d_TrustDeskModel_readRule_140 rfl rfl ?_
                obtain ⟨_, b1446, -⟩ := I1424.1 _ _ t619
                refine mv_callV (kc' := 0) (ks' := 0) (As := []) (st9 := [.ref o0]) d_TrustDeskModel_readRule_141 lV_TrustDeskModel_237 b1446 rfl (tc_TrustDeskModel_next_x (d := (d + 23)) (x9 := x9) (o0 := o0) t619 R1426 I1424.start) rfl (Nat.le_of_ble_eq_true rfl) (Nat.le_of_ble_eq_true rfl) (Nat.le_of_ble_eq_true rfl) (hst := rfl) (fun b1440r M1441 n1442 b1440 => ?_)
                obtain ⟨T1443, J1444, rfl, R1447, f1448, f1449⟩ := b1440
                have I1445 := I1424.call J1444 (tm_sub (by decide)) (Or.inl rfl)
                have t1450 := J1444.up t619
                have := (rv_c I1424 J1444 (I1424.up h_o0) (k := 19) rfl)
                have := (rv_c I1424 J1444 (I1424.up h_o0) (k := 22) rfl)
                have := (rv_c I1424 J1444 (I1424.up h_o0) (k := 24) rfl)
                have := ra_call I1424 J1444 (I1424.up h_o0) (k := 5) rfl rfl rfl 44
                have := ra_call I1424 J1444 (I1424.up h_o0) (k := 6) rfl rfl rfl 44
                have h1452 : rv M1423 o0 16 + 1 ≤ rv M1423 o0 15 := (by have := R1426.1 15 _ _ rfl; have := R1426.1 16 _ _ rfl; have := R1426.1 19 _ _ rfl; have := E1430.f yS; omega)
                have E1451 : rE M0 M1441 o0 0 2 := E1430.next f1448 f1449 (rv_c I1424 J1444 (I1424.up h_o0) (k := 19) rfl) (rE_ha I1424 J1444 (I1424.up h_o0) (by decide)) (e := 1) h1452 (by decide)
                have := ra_call I1424 J1444 (I1424.up h_o0) (k := 7) rfl rfl rfl ((880 + ra M0 o0 6 44).toNat)
                have := ra_call I1424 J1444 (I1424.up h_o0) (k := 10) rfl rfl rfl ((880 + ra M0 o0 6 44).toNat)
                have := ra_call I1424 J1444 (I1424.up h_o0) (k := 8) rfl rfl rfl ((880 + ra M0 o0 6 44).toNat)
                have K1453 : rK M0 M1441 o0 ((880 + ra M0 o0 6 44).toNat) := K1432.same (sA_c I1424 J1444 (I1424.up h_o0) (by decide))
                have K1454 : nN M1441 o0 := K1433.same (sA_c I1424 J1444 (I1424.up h_o0) (by decide)) (sF_c I1424 J1444 (I1424.up h_o0) (by decide))
                have q1455 := J1444.keep t619 (by decide) (K1425 _ 13 6 _ q624)
                have t1456 := J1444.up t625
                have q1457 := J1444.keep t619 (by decide) (K1425 _ 13 19 _ q626)
                have q1458 := J1444.keep t619 (by decide) (K1425 _ 13 8 _ q627)
                have t1459 := J1444.up t620
                refine mv_aload_n d_TrustDeskModel_readRule_144 rfl rfl ?_
                refine mv_ldcSw (id := 25) (tx := "if") d_TrustDeskModel_readRule_145 (List.mem_of_getElem? (i := 15) rfl) ?_
                obtain ⟨_, b1466, -⟩ := I1445.1 _ _ t1450
                refine mv_callV (kc' := 0) (ks' := 0) (As := [.ref 25]) (st9 := [.ref 25, .ref o0]) d_TrustDeskModel_readRule_148 lV_TrustDeskModel_329 b1466 rfl (tc_TrustDeskModel_wantWord_s1_25_x (d := (d + 19)) (x9 := x9) (o0 := o0) t1450 R1447 E1451.1 (by have := R1447.1 15 _ _ rfl; have := R1447.1 16 _ _ rfl; have := R1447.1 19 _ _ rfl; have := E1451.f yS; omega) I1445.start) rfl (Nat.le_of_ble_eq_true rfl) (Nat.le_of_ble_eq_true rfl) (Nat.le_of_ble_eq_true rfl) (hst := rfl) (fun b1460r M1461 n1462 b1460 => ?_)
                obtain ⟨T1463, J1464, rfl, R1467, f1468⟩ := b1460
                have I1465 := I1445.call J1464 (tm_sub (by decide)) (Or.inl rfl)
                have t1469 := J1464.up t1450
                have := (rv_c I1445 J1464 (I1445.up h_o0) (k := 22) rfl)
                have := (rv_c I1445 J1464 (I1445.up h_o0) (k := 24) rfl)
                have := ra_call I1445 J1464 (I1445.up h_o0) (k := 5) rfl rfl rfl 44
                have := ra_call I1445 J1464 (I1445.up h_o0) (k := 6) rfl rfl rfl 44
                have E1470 : rE M0 M1461 o0 0 3 := E1451.trans f1468 (by decide) (yR.2 5 _ _ rfl 44).1 (by decide) (by decide)
                have := f1468.w
                have := f1468.w2
                have := ra_call I1445 J1464 (I1445.up h_o0) (k := 7) rfl rfl rfl ((880 + ra M0 o0 6 44).toNat)
                have := ra_call I1445 J1464 (I1445.up h_o0) (k := 10) rfl rfl rfl ((880 + ra M0 o0 6 44).toNat)
                have := ra_call I1445 J1464 (I1445.up h_o0) (k := 8) rfl rfl rfl ((880 + ra M0 o0 6 44).toNat)
                have K1471 : rK M0 M1461 o0 ((880 + ra M0 o0 6 44).toNat) := K1453.same (sA_c I1445 J1464 (I1445.up h_o0) (by decide))
                have K1472 : nN M1461 o0 := K1454.same (sA_c I1445 J1464 (I1445.up h_o0) (by decide)) (sF_c I1445 J1464 (I1445.up h_o0) (by decide))
                have q1473 := J1464.keep t1450 (by decide) q1455
                have t1474 := J1464.up t1456
                have q1475 := J1464.keep t1450 (by decide) q1458
                have t1476 := J1464.up t1459
                refine mv_aload_n d_TrustDeskModel_readRule_151 rfl rfl ?_
                obtain ⟨a1478, q1477, t_a1478⟩ := tm_atR I1465 t1469 (k := 11) rfl
                refine tr_getK q1477 d_TrustDeskModel_readRule_152 f_TrustDeskModel_38_13 ?_
                refine mv_iload_n d_TrustDeskModel_readRule_155 rfl rfl ?_
                refine mv_aload_n d_TrustDeskModel_readRule_156 rfl rfl ?_
                obtain ⟨a1480, q1479, t_a1480⟩ := tm_atR I1465 t1469 (k := 5) rfl
                refine tr_getK q1479 d_TrustDeskModel_readRule_157 f_TrustDeskModel_20_13 ?_
                refine mv_bipush (v := 44) d_TrustDeskModel_readRule_160 (by decide) ?_
                refine tr_ialdR (o := o0) (k := 5) I1465 q1479 t_a1480 (by decide) d_TrustDeskModel_readRule_162 (by unfold vp_in; decide) (fun v1481 e1482 => ?_)
                have := R1467.a (k := 5) rfl (44 : Int32).toNatClampNeg
                have : v1481.toInt = ra M1461 o0 5 44 := e1482
                refine tr_iastR (k := 11) I1465 R1467 (I1465.up h_o0) q1477 t_a1478 (by decide) (by decide) (fun lo hi h => by cases h; have := R1467.1 15 _ _ rfl; have := R1467.1 16 _ _ rfl; have := R1467.1 19 _ _ rfl; have := E1470.f yS; exact ⟨by show (0 : Int) ≤ v1481.toInt; omega, by show v1481.toInt ≤ (400 : Int); omega⟩) (Or.inl (by decide)) d_TrustDeskModel_readRule_163 (vp_in_iff.mpr (by have := R1467.1 15 _ _ rfl; have := R1467.1 16 _ _ rfl; have := R1467.1 19 _ _ rfl; have := E1470.f yS; omega)) (fun M1483 I1484 K1485 R1486 E1487 A1488 V1489 => ?_)
                have := V1489 15
                have := V1489 16
                have := V1489 17
                have := V1489 19
                have := V1489 22
                have := V1489 24
                have := A1488 5 (by decide) rfl 44
                have := A1488 6 (by decide) rfl 44
                have E1490 : rE M0 M1483 o0 0 3 := E1470.same (fun k _ _ => V1489 k) (fun k h1 h2 => A1488 k (by omega) (by rcases (show k = 4 ∨ k = 5 by omega) with rfl | rfl <;> rfl))
                have := A1488 7 (by decide) rfl ((880 + ra M0 o0 6 44).toNat)
                have := A1488 10 (by decide) rfl ((880 + ra M0 o0 6 44).toNat)
                have := A1488 8 (by decide) rfl ((880 + ra M0 o0 6 44).toNat)
                have h1491 : (880 + ra M0 o0 6 44).toNat = v34.toNatClampNeg := by have := mz_nat9 (i := v34) (by have := R1467.1 15 _ _ rfl; have := R1467.1 16 _ _ rfl; have := R1467.1 19 _ _ rfl; have := E1470.f yS; omega); have := R1467.1 15 _ _ rfl; have := R1467.1 16 _ _ rfl; have := R1467.1 19 _ _ rfl; have := E1470.f yS; omega
                have : ra M1483 o0 11 ((880 + ra M0 o0 6 44).toNat) = v1481.toInt := (E1487 _).trans (if_pos h1491)
                have K1492 : rK M0 M1483 o0 ((880 + ra M0 o0 6 44).toNat) := K1471.st A1488 E1487 (by have := mz_nat9 (i := v34) (by have := R1467.1 15 _ _ rfl; have := R1467.1 16 _ _ rfl; have := R1467.1 19 _ _ rfl; have := E1470.f yS; omega); have := R1467.1 15 _ _ rfl; have := R1467.1 16 _ _ rfl; have := R1467.1 19 _ _ rfl; have := E1470.f yS; omega)
                have K1493 : nN M1483 o0 := K1472.same (sA_a A1488 (by decide)) (sF_a V1489)
                have F1494 : rE M1483 M1483 o0 0 0 := rE.rf E1490.1
                refine mv_aload_n d_TrustDeskModel_readRule_164 rfl rfl ?_
                obtain ⟨_, b1501, -⟩ := I1484.1 _ _ t1469
                refine mv_callV (kc' := 0) (ks' := 0) (As := []) (st9 := [.ref o0]) d_TrustDeskModel_readRule_165 lV_TrustDeskModel_302 b1501 rfl (tc_TrustDeskModel_cond_q5_x (d := d) (x9 := x9) (o0 := o0) t1469 R1486 E1490.1 (by have := R1486.1 15 _ _ rfl; have := R1486.1 16 _ _ rfl; have := R1486.1 19 _ _ rfl; have := E1490.f yS; omega) (by have := R1486.1 15 _ _ rfl; have := R1486.1 16 _ _ rfl; have := R1486.1 19 _ _ rfl; have := E1490.f yS; omega) I1484.start) rfl (Nat.le_of_ble_eq_true rfl) (Nat.le_of_ble_eq_true rfl) (Nat.le_of_ble_eq_true rfl) (hst := rfl) (fun b1495r M1496 n1497 b1495 => ?_)
                obtain ⟨T1498, J1499, rfl, R1502, f1503, f1504⟩ := b1495
                have I1500 := I1484.call J1499 (tm_sub (by decide)) (Or.inl rfl)
                have t1505 := J1499.up t1469
                have := (rv_c I1484 J1499 (I1484.up h_o0) (k := 24) rfl)
                have := ra_call I1484 J1499 (I1484.up h_o0) (k := 6) rfl rfl rfl 44
                have E1506 : rE M0 M1496 o0 1 3 := E1490.trans f1503 (by decide) (yR.2 5 _ _ rfl 44).1 (by decide) (by decide)
                have := f1503.w
                have := f1503.w2
                have := ra_call I1484 J1499 (I1484.up h_o0) (k := 7) rfl rfl rfl ((880 + ra M0 o0 6 44).toNat)
                have := ra_call I1484 J1499 (I1484.up h_o0) (k := 10) rfl rfl rfl ((880 + ra M0 o0 6 44).toNat)
                have := ra_call I1484 J1499 (I1484.up h_o0) (k := 8) rfl rfl rfl ((880 + ra M0 o0 6 44).toNat)
                have := ra_call I1484 J1499 (I1484.up h_o0) (k := 11) rfl rfl rfl ((880 + ra M0 o0 6 44).toNat)
                have K1507 : rK M0 M1496 o0 ((880 + ra M0 o0 6 44).toNat) := K1492.same (sA_c I1484 J1499 (I1484.up h_o0) (by decide))
                have K1508 : nN M1496 o0 := K1493.same (sA_c I1484 J1499 (I1484.up h_o0) (by decide)) (sF_c I1484 J1499 (I1484.up h_o0) (by decide))
                have F1509 : rE M1483 M1496 o0 1 0 := F1494.trans f1503 (by decide) (R1486.2 5 _ _ rfl 44).1 (by decide) (by decide)
                have q1510 := J1499.keep t1469 (by decide) (K1485 _ 13 6 _ q1473)
                have t1511 := J1499.up t1474
                have q1512 := J1499.keep t1469 (by decide) (K1485 _ 13 8 _ q1475)
                have t1513 := J1499.up t1476
                have q1514 := J1499.keep t1469 (by decide) (K1485 _ 13 11 _ q1477)
                have t1515 := J1499.up t_a1478
                have q1516 := J1499.keep t1469 (by decide) (K1485 _ 13 5 _ q1479)
                have t1517 := J1499.up t_a1480
                refine mv_goto (tgt := 251) d_TrustDeskModel_readRule_168 (by decide) ?_
                refine mv_aload_n d_TrustDeskModel_readRule_251 rfl rfl ?_
                refine mv_bipush (v := 59) d_TrustDeskModel_readRule_252 (by decide) ?_
                obtain ⟨_, b1524, -⟩ := I1500.1 _ _ t1505
                have : (59 : Int32).toInt = 59 := by decide
                refine mv_callV (kc' := 0) (ks' := 0) (As := [.int 59]) (st9 := [.int 59, .ref o0]) d_TrustDeskModel_readRule_254 lV_TrustDeskModel_291 b1524 rfl (tc_TrustDeskModel_wantSign_x (d := (d + 22)) (x9 := x9) (o0 := o0) (x1 := 59) t1505 R1502 E1506.1 (by have := R1502.1 15 _ _ rfl; have := R1502.1 16 _ _ rfl; have := R1502.1 19 _ _ rfl; have := E1506.f yS; omega) I1500.start) rfl (Nat.le_of_ble_eq_true rfl) (Nat.le_of_ble_eq_true rfl) (Nat.le_of_ble_eq_true rfl) (hst := rfl) (fun b1518r M1519 n1520 b1518 => ?_)
                obtain ⟨T1521, J1522, rfl, R1525, f1526⟩ := b1518
                have I1523 := I1500.call J1522 (tm_sub (by decide)) (Or.inl rfl)
                have t1527 := J1522.up t1505
                have := (rv_c I1500 J1522 (I1500.up h_o0) (k := 22) rfl)
                have := (rv_c I1500 J1522 (I1500.up h_o0) (k := 24) rfl)
                have := ra_call I1500 J1522 (I1500.up h_o0) (k := 5) rfl rfl rfl 44
                have := ra_call I1500 J1522 (I1500.up h_o0) (k := 6) rfl rfl rfl 44
                have E1528 : rE M0 M1519 o0 1 4 := E1506.trans f1526 (by decide) (yR.2 5 _ _ rfl 44).1 (by decide) (by decide)
                have := f1526.w
                have := f1526.w2
                have := ra_call I1500 J1522 (I1500.up h_o0) (k := 7) rfl rfl rfl ((880 + ra M0 o0 6 44).toNat)
                have := ra_call I1500 J1522 (I1500.up h_o0) (k := 10) rfl rfl rfl ((880 + ra M0 o0 6 44).toNat)
                have := ra_call I1500 J1522 (I1500.up h_o0) (k := 8) rfl rfl rfl ((880 + ra M0 o0 6 44).toNat)
                have := ra_call I1500 J1522 (I1500.up h_o0) (k := 11) rfl rfl rfl ((880 + ra M0 o0 6 44).toNat)
                have K1529 : rK M0 M1519 o0 ((880 + ra M0 o0 6 44).toNat) := K1507.same (sA_c I1500 J1522 (I1500.up h_o0) (by decide))
                have K1530 : nN M1519 o0 := K1508.same (sA_c I1500 J1522 (I1500.up h_o0) (by decide)) (sF_c I1500 J1522 (I1500.up h_o0) (by decide))
                have F1531 : rE M1483 M1519 o0 1 1 := F1509.trans f1526 (by decide) (R1486.2 5 _ _ rfl 44).1 (by decide) (by decide)
                have q1532 := J1522.keep t1505 (by decide) q1510
                have t1533 := J1522.up t1511
                have q1534 := J1522.keep t1505 (by decide) q1512
                have t1535 := J1522.up t1513
                have q1536 := J1522.keep t1505 (by decide) q1514
                have t1537 := J1522.up t1515
                have q1538 := J1522.keep t1505 (by decide) q1516
                have t1539 := J1522.up t1517
                refine mv_aload_n d_TrustDeskModel_readRule_257 rfl rfl ?_
                obtain ⟨a1541, q1540, t_a1541⟩ := tm_atR I1523 t1527 (k := 12) rfl
                refine tr_getK q1540 d_TrustDeskModel_readRule_258 f_TrustDeskModel_41_13 ?_
                refine mv_iload_n d_TrustDeskModel_readRule_261 rfl rfl ?_
                refine mv_aload_n d_TrustDeskModel_readRule_262 rfl rfl ?_
                refine tr_getK (k := 5) q1538 d_TrustDeskModel_readRule_263 f_TrustDeskModel_20_13 ?_
                refine mv_bipush (v := 44) d_TrustDeskModel_readRule_266 (by decide) ?_
                refine tr_ialdR (o := o0) (k := 5) I1523 q1538 t1539 (by decide) d_TrustDeskModel_readRule_268 (by unfold vp_in; decide) (fun v1542 e1543 => ?_)
                have := R1525.a (k := 5) rfl (44 : Int32).toNatClampNeg
                have : v1542.toInt = ra M1519 o0 5 44 := e1543
                refine tr_iastR (k := 12) I1523 R1525 (I1523.up h_o0) q1540 t_a1541 (by decide) (by decide) (fun lo hi h => by cases h; have := R1525.1 15 _ _ rfl; have := R1525.1 16 _ _ rfl; have := R1525.1 19 _ _ rfl; have := E1528.f yS; exact ⟨by show (0 : Int) ≤ v1542.toInt; omega, by show v1542.toInt ≤ (400 : Int); omega⟩) (Or.inl (by decide)) d_TrustDeskModel_readRule_269 (vp_in_iff.mpr (by have := R1525.1 15 _ _ rfl; have := R1525.1 16 _ _ rfl; have := R1525.1 19 _ _ rfl; have := E1528.f yS; omega)) (fun M1544 I1545 K1546 R1547 E1548 A1549 V1550 => ?_)
                have := V1550 15
                have := V1550 16
                have := V1550 17
                have := V1550 19
                have := V1550 22
                have := V1550 24
                have := A1549 5 (by decide) rfl 44
                have := A1549 6 (by decide) rfl 44
                have E1551 : rE M0 M1544 o0 1 4 := E1528.same (fun k _ _ => V1550 k) (fun k h1 h2 => A1549 k (by omega) (by rcases (show k = 4 ∨ k = 5 by omega) with rfl | rfl <;> rfl))
                have := A1549 7 (by decide) rfl ((880 + ra M0 o0 6 44).toNat)
                have := A1549 10 (by decide) rfl ((880 + ra M0 o0 6 44).toNat)
                have := A1549 8 (by decide) rfl ((880 + ra M0 o0 6 44).toNat)
                have := A1549 11 (by decide) rfl ((880 + ra M0 o0 6 44).toNat)
                have h1552 : (880 + ra M0 o0 6 44).toNat = v34.toNatClampNeg := by have := mz_nat9 (i := v34) (by have := R1525.1 15 _ _ rfl; have := R1525.1 16 _ _ rfl; have := R1525.1 19 _ _ rfl; have := E1528.f yS; omega); have := R1525.1 15 _ _ rfl; have := R1525.1 16 _ _ rfl; have := R1525.1 19 _ _ rfl; have := E1528.f yS; omega
                have : ra M1544 o0 12 ((880 + ra M0 o0 6 44).toNat) = v1542.toInt := (E1548 _).trans (if_pos h1552)
                have K1553 : rK M0 M1544 o0 ((880 + ra M0 o0 6 44).toNat) := K1529.st A1549 E1548 (by have := mz_nat9 (i := v34) (by have := R1525.1 15 _ _ rfl; have := R1525.1 16 _ _ rfl; have := R1525.1 19 _ _ rfl; have := E1528.f yS; omega); have := R1525.1 15 _ _ rfl; have := R1525.1 16 _ _ rfl; have := R1525.1 19 _ _ rfl; have := E1528.f yS; omega)
                have K1554 : nN M1544 o0 := K1530.same (sA_a A1549 (by decide)) (sF_a V1550)
                have F1555 : rE M1483 M1544 o0 1 1 := F1531.same (fun k _ _ => V1550 k) (fun k h1 h2 => A1549 k (by omega) (by rcases (show k = 4 ∨ k = 5 by omega) with rfl | rfl <;> rfl))
                exact mv_vret d_TrustDeskModel_readRule_270 rfl ⟨_, I1545, rfl, R1547, (rW.of E1551.1 (fun w9 => (by have := R1547.1 15 _ _ rfl; have := R1547.1 16 _ _ rfl; have := R1547.1 19 _ _ rfl; have := E1551.f yS; omega)) (fun w9 => rG.step yG yR E1551 w9 K1553 (by have := yR.2 6 _ _ rfl 44; omega) (by have := R1547.1 15 _ _ rfl; have := R1547.1 16 _ _ rfl; have := R1547.1 19 _ _ rfl; have := E1551.f yS; omega) (by have := R1547.1 15 _ _ rfl; have := R1547.1 16 _ _ rfl; have := R1547.1 19 _ _ rfl; have := E1551.f yS; omega) (fun _ => rowN.of E1490 F1555 w9 (by decide) (by decide) (yR.2 5 _ _ rfl 44).1 (by have := R1547.1 15 _ _ rfl; have := R1547.1 16 _ _ rfl; have := R1547.1 19 _ _ rfl; have := E1551.f yS; omega) (by have := R1547.1 15 _ _ rfl; have := R1547.1 16 _ _ rfl; have := R1547.1 19 _ _ rfl; have := E1551.f yS; omega) (by have := R1547.1 15 _ _ rfl; have := R1547.1 16 _ _ rfl; have := R1547.1 19 _ _ rfl; have := E1551.f yS; omega)) (fun h9 => (by have := R1547.1 15 _ _ rfl; have := R1547.1 16 _ _ rfl; have := R1547.1 19 _ _ rfl; have := E1551.f yS; omega)) (by have := R1547.1 15 _ _ rfl; have := R1547.1 16 _ _ rfl; have := R1547.1 19 _ _ rfl; have := E1551.f yS; omega) K1554)), (rO.of E1551 K1553 (by have := yR.2 6 _ _ rfl 44; omega)), (by have := R1547.1 15 _ _ rfl; have := R1547.1 16 _ _ rfl; have := R1547.1 19 _ _ rfl; have := E1551.f yS; omega), (by have := R1547.1 15 _ _ rfl; have := R1547.1 16 _ _ rfl; have := R1547.1 19 _ _ rfl; have := E1551.f yS; omega)⟩
              · refine mv_aload_n d_TrustDeskModel_readRule_128 rfl rfl ?_
                refine mv_iconst (v := 1) d_TrustDeskModel_readRule_129 (by decide) ?_
                obtain ⟨_, b1562, -⟩ := I1424.1 _ _ t619
                have : (1 : Int32).toInt = 1 := by decide
                refine mv_callV (kc' := 0) (ks' := 0) (As := [.int 1]) (st9 := [.int 1, .ref o0]) d_TrustDeskModel_readRule_130 lV_TrustDeskModel_240 b1562 rfl (tc_TrustDeskModel_fails_x (d := (d + 24)) (x9 := x9) (o0 := o0) (x1 := 1) t619 R1426 (by decide) I1424.start) rfl (Nat.le_of_ble_eq_true rfl) (Nat.le_of_ble_eq_true rfl) (Nat.le_of_ble_eq_true rfl) (hst := rfl) (fun b1556r M1557 n1558 b1556 => ?_)
                obtain ⟨T1559, J1560, rfl, R1563, f1564⟩ := b1556
                have I1561 := I1424.call J1560 (tm_sub (by decide)) (Or.inl rfl)
                have t1565 := J1560.up t619
                have := (rv_c I1424 J1560 (I1424.up h_o0) (k := 15) rfl)
                have := (rv_c I1424 J1560 (I1424.up h_o0) (k := 16) rfl)
                have := (rv_c I1424 J1560 (I1424.up h_o0) (k := 17) rfl)
                have := (rv_c I1424 J1560 (I1424.up h_o0) (k := 22) rfl)
                have := (rv_c I1424 J1560 (I1424.up h_o0) (k := 24) rfl)
                have := ra_call I1424 J1560 (I1424.up h_o0) (k := 5) rfl rfl rfl 44
                have := ra_call I1424 J1560 (I1424.up h_o0) (k := 6) rfl rfl rfl 44
                have E1566 : rE M0 M1557 o0 0 1 := E1430.fails (rE_hv I1424 J1560 (I1424.up h_o0) 15 18 (by decide)) (rE_ha I1424 J1560 (I1424.up h_o0) (by decide)) f1564 0 1
                have := ra_call I1424 J1560 (I1424.up h_o0) (k := 7) rfl rfl rfl ((880 + ra M0 o0 6 44).toNat)
                have := ra_call I1424 J1560 (I1424.up h_o0) (k := 10) rfl rfl rfl ((880 + ra M0 o0 6 44).toNat)
                have := ra_call I1424 J1560 (I1424.up h_o0) (k := 8) rfl rfl rfl ((880 + ra M0 o0 6 44).toNat)
                have K1567 : rK M0 M1557 o0 ((880 + ra M0 o0 6 44).toNat) := K1432.same (sA_c I1424 J1560 (I1424.up h_o0) (by decide))
                have K1568 : nN M1557 o0 := K1433.same (sA_c I1424 J1560 (I1424.up h_o0) (by decide)) (sF_c I1424 J1560 (I1424.up h_o0) (by decide))
                have q1569 := J1560.keep t619 (by decide) (K1425 _ 13 6 _ q624)
                have t1570 := J1560.up t625
                have q1571 := J1560.keep t619 (by decide) (K1425 _ 13 8 _ q627)
                have t1572 := J1560.up t620
                refine mv_aload_n d_TrustDeskModel_readRule_133 rfl rfl ?_
                obtain ⟨_, b1573, -⟩ := I1561.1 _ _ t1565
                refine mv_callV (kc1 := 0) (ks1 := 0) (kc' := 0) (ks' := 0) (As := []) (st9 := [.ref o0]) d_TrustDeskModel_readRule_134 lV_TrustDeskModel_230 b1573 rfl (mj_enter (by decide) (Nat.le_of_ble_eq_true rfl) ?_) rfl (Nat.le_of_ble_eq_true rfl) (Nat.le_of_ble_eq_true rfl) (Nat.le_of_ble_eq_true rfl) (hst := rfl) (fun _ _ _ h => h)
                refine mv_aload_n d_TrustDeskModel_isWell_0 rfl rfl ?_
                obtain ⟨v1575, q1574⟩ := tm_atI I1561 t1565 (k := 19) rfl
                refine tr_getK q1574 d_TrustDeskModel_isWell_1 f_TrustDeskModel_224_13 ?_
                have := R1563.f (k := 19) q1574 rfl
                have := tm_rv q1574
                refine mv_if_neZ (tgt := 11) (a := v1575.toInt) d_TrustDeskModel_isWell_4 (by decide) rfl (fun b1576 => ?_) (fun b1576 => ?_)
                · refine mv_iconst (v := 0) d_TrustDeskModel_isWell_11 (by decide) ?_
                  refine mv_iret d_TrustDeskModel_isWell_12 rfl (by decide) ?_
                  refine mv_if_eq_t (tgt := 144) d_TrustDeskModel_readRule_137 (by decide) (by decide) ?_
                  refine mv_aload_n d_TrustDeskModel_readRule_144 rfl rfl ?_
                  refine mv_ldcSw (id := 25) (tx := "if") d_TrustDeskModel_readRule_145 (List.mem_of_getElem? (i := 15) rfl) ?_
                  obtain ⟨_, b1583, -⟩ := I1561.1 _ _ t1565
                  refine mv_callV (kc' := 0) (ks' := 0) (As := [.ref 25]) (st9 := [.ref 25, .ref o0]) d_TrustDeskModel_readRule_148 lV_TrustDeskModel_329 b1583 rfl (tc_TrustDeskModel_wantWord_s1_25_x (d := (d + 19)) (x9 := x9) (o0 := o0) t1565 R1563 E1566.1 (by have := R1563.1 15 _ _ rfl; have := R1563.1 16 _ _ rfl; have := R1563.1 19 _ _ rfl; have := E1566.f yS; omega) I1561.start) rfl (Nat.le_of_ble_eq_true rfl) (Nat.le_of_ble_eq_true rfl) (Nat.le_of_ble_eq_true rfl) (hst := rfl) (fun b1577r M1578 n1579 b1577 => ?_)
                  obtain ⟨T1580, J1581, rfl, R1584, f1585⟩ := b1577
                  have I1582 := I1561.call J1581 (tm_sub (by decide)) (Or.inl rfl)
                  have t1586 := J1581.up t1565
                  have := (rv_c I1561 J1581 (I1561.up h_o0) (k := 22) rfl)
                  have := (rv_c I1561 J1581 (I1561.up h_o0) (k := 24) rfl)
                  have := ra_call I1561 J1581 (I1561.up h_o0) (k := 5) rfl rfl rfl 44
                  have := ra_call I1561 J1581 (I1561.up h_o0) (k := 6) rfl rfl rfl 44
                  have E1587 : rE M0 M1578 o0 0 2 := E1566.trans f1585 (by decide) (yR.2 5 _ _ rfl 44).1 (by decide) (by decide)
                  have := f1585.w
                  have := f1585.w2
                  have := ra_call I1561 J1581 (I1561.up h_o0) (k := 7) rfl rfl rfl ((880 + ra M0 o0 6 44).toNat)
                  have := ra_call I1561 J1581 (I1561.up h_o0) (k := 10) rfl rfl rfl ((880 + ra M0 o0 6 44).toNat)
                  have := ra_call I1561 J1581 (I1561.up h_o0) (k := 8) rfl rfl rfl ((880 + ra M0 o0 6 44).toNat)
                  have K1588 : rK M0 M1578 o0 ((880 + ra M0 o0 6 44).toNat) := K1567.same (sA_c I1561 J1581 (I1561.up h_o0) (by decide))
                  have K1589 : nN M1578 o0 := K1568.same (sA_c I1561 J1581 (I1561.up h_o0) (by decide)) (sF_c I1561 J1581 (I1561.up h_o0) (by decide))
                  have q1590 := J1581.keep t1565 (by decide) q1569
                  have t1591 := J1581.up t1570
                  have q1592 := J1581.keep t1565 (by decide) q1571
                  have t1593 := J1581.up t1572
                  refine mv_aload_n d_TrustDeskModel_readRule_151 rfl rfl ?_
                  obtain ⟨a1595, q1594, t_a1595⟩ := tm_atR I1582 t1586 (k := 11) rfl
                  refine tr_getK q1594 d_TrustDeskModel_readRule_152 f_TrustDeskModel_38_13 ?_
                  refine mv_iload_n d_TrustDeskModel_readRule_155 rfl rfl ?_
                  refine mv_aload_n d_TrustDeskModel_readRule_156 rfl rfl ?_
                  obtain ⟨a1597, q1596, t_a1597⟩ := tm_atR I1582 t1586 (k := 5) rfl
                  refine tr_getK q1596 d_TrustDeskModel_readRule_157 f_TrustDeskModel_20_13 ?_
                  refine mv_bipush (v := 44) d_TrustDeskModel_readRule_160 (by decide) ?_
                  refine tr_ialdR (o := o0) (k := 5) I1582 q1596 t_a1597 (by decide) d_TrustDeskModel_readRule_162 (by unfold vp_in; decide) (fun v1598 e1599 => ?_)
                  have := R1584.a (k := 5) rfl (44 : Int32).toNatClampNeg
                  have : v1598.toInt = ra M1578 o0 5 44 := e1599
                  refine tr_iastR (k := 11) I1582 R1584 (I1582.up h_o0) q1594 t_a1595 (by decide) (by decide) (fun lo hi h => by cases h; have := R1584.1 15 _ _ rfl; have := R1584.1 16 _ _ rfl; have := R1584.1 19 _ _ rfl; have := E1587.f yS; exact ⟨by show (0 : Int) ≤ v1598.toInt; omega, by show v1598.toInt ≤ (400 : Int); omega⟩) (Or.inl (by decide)) d_TrustDeskModel_readRule_163 (vp_in_iff.mpr (by have := R1584.1 15 _ _ rfl; have := R1584.1 16 _ _ rfl; have := R1584.1 19 _ _ rfl; have := E1587.f yS; omega)) (fun M1600 I1601 K1602 R1603 E1604 A1605 V1606 => ?_)
                  have := V1606 15
                  have := V1606 16
                  have := V1606 17
                  have := V1606 19
                  have := V1606 22
                  have := V1606 24
                  have := A1605 5 (by decide) rfl 44
                  have := A1605 6 (by decide) rfl 44
                  have E1607 : rE M0 M1600 o0 0 2 := E1587.same (fun k _ _ => V1606 k) (fun k h1 h2 => A1605 k (by omega) (by rcases (show k = 4 ∨ k = 5 by omega) with rfl | rfl <;> rfl))
                  have := A1605 7 (by decide) rfl ((880 + ra M0 o0 6 44).toNat)
                  have := A1605 10 (by decide) rfl ((880 + ra M0 o0 6 44).toNat)
                  have := A1605 8 (by decide) rfl ((880 + ra M0 o0 6 44).toNat)
                  have h1608 : (880 + ra M0 o0 6 44).toNat = v34.toNatClampNeg := by have := mz_nat9 (i := v34) (by have := R1584.1 15 _ _ rfl; have := R1584.1 16 _ _ rfl; have := R1584.1 19 _ _ rfl; have := E1587.f yS; omega); have := R1584.1 15 _ _ rfl; have := R1584.1 16 _ _ rfl; have := R1584.1 19 _ _ rfl; have := E1587.f yS; omega
                  have : ra M1600 o0 11 ((880 + ra M0 o0 6 44).toNat) = v1598.toInt := (E1604 _).trans (if_pos h1608)
                  have K1609 : rK M0 M1600 o0 ((880 + ra M0 o0 6 44).toNat) := K1588.st A1605 E1604 (by have := mz_nat9 (i := v34) (by have := R1584.1 15 _ _ rfl; have := R1584.1 16 _ _ rfl; have := R1584.1 19 _ _ rfl; have := E1587.f yS; omega); have := R1584.1 15 _ _ rfl; have := R1584.1 16 _ _ rfl; have := R1584.1 19 _ _ rfl; have := E1587.f yS; omega)
                  have K1610 : nN M1600 o0 := K1589.same (sA_a A1605 (by decide)) (sF_a V1606)
                  have F1611 : rE M1600 M1600 o0 0 0 := rE.rf E1607.1
                  refine mv_aload_n d_TrustDeskModel_readRule_164 rfl rfl ?_
                  obtain ⟨_, b1618, -⟩ := I1601.1 _ _ t1586
                  refine mv_callV (kc' := 0) (ks' := 0) (As := []) (st9 := [.ref o0]) d_TrustDeskModel_readRule_165 lV_TrustDeskModel_302 b1618 rfl (tc_TrustDeskModel_cond_q5_x (d := d) (x9 := x9) (o0 := o0) t1586 R1603 E1607.1 (by have := R1603.1 15 _ _ rfl; have := R1603.1 16 _ _ rfl; have := R1603.1 19 _ _ rfl; have := E1607.f yS; omega) (by have := R1603.1 15 _ _ rfl; have := R1603.1 16 _ _ rfl; have := R1603.1 19 _ _ rfl; have := E1607.f yS; omega) I1601.start) rfl (Nat.le_of_ble_eq_true rfl) (Nat.le_of_ble_eq_true rfl) (Nat.le_of_ble_eq_true rfl) (hst := rfl) (fun b1612r M1613 n1614 b1612 => ?_)
                  obtain ⟨T1615, J1616, rfl, R1619, f1620, f1621⟩ := b1612
                  have I1617 := I1601.call J1616 (tm_sub (by decide)) (Or.inl rfl)
                  have t1622 := J1616.up t1586
                  have := (rv_c I1601 J1616 (I1601.up h_o0) (k := 24) rfl)
                  have := ra_call I1601 J1616 (I1601.up h_o0) (k := 6) rfl rfl rfl 44
                  have E1623 : rE M0 M1613 o0 1 2 := E1607.trans f1620 (by decide) (yR.2 5 _ _ rfl 44).1 (by decide) (by decide)
                  have := f1620.w
                  have := f1620.w2
                  have := ra_call I1601 J1616 (I1601.up h_o0) (k := 7) rfl rfl rfl ((880 + ra M0 o0 6 44).toNat)
                  have := ra_call I1601 J1616 (I1601.up h_o0) (k := 10) rfl rfl rfl ((880 + ra M0 o0 6 44).toNat)
                  have := ra_call I1601 J1616 (I1601.up h_o0) (k := 8) rfl rfl rfl ((880 + ra M0 o0 6 44).toNat)
                  have := ra_call I1601 J1616 (I1601.up h_o0) (k := 11) rfl rfl rfl ((880 + ra M0 o0 6 44).toNat)
                  have K1624 : rK M0 M1613 o0 ((880 + ra M0 o0 6 44).toNat) := K1609.same (sA_c I1601 J1616 (I1601.up h_o0) (by decide))
                  have K1625 : nN M1613 o0 := K1610.same (sA_c I1601 J1616 (I1601.up h_o0) (by decide)) (sF_c I1601 J1616 (I1601.up h_o0) (by decide))
                  have F1626 : rE M1600 M1613 o0 1 0 := F1611.trans f1620 (by decide) (R1603.2 5 _ _ rfl 44).1 (by decide) (by decide)
                  have q1627 := J1616.keep t1586 (by decide) (K1602 _ 13 6 _ q1590)
                  have t1628 := J1616.up t1591
                  have q1629 := J1616.keep t1586 (by decide) (K1602 _ 13 8 _ q1592)
                  have t1630 := J1616.up t1593
                  have q1631 := J1616.keep t1586 (by decide) (K1602 _ 13 11 _ q1594)
                  have t1632 := J1616.up t_a1595
                  have q1633 := J1616.keep t1586 (by decide) (K1602 _ 13 5 _ q1596)
                  have t1634 := J1616.up t_a1597
                  refine mv_goto (tgt := 251) d_TrustDeskModel_readRule_168 (by decide) ?_
                  refine mv_aload_n d_TrustDeskModel_readRule_251 rfl rfl ?_
                  refine mv_bipush (v := 59) d_TrustDeskModel_readRule_252 (by decide) ?_
                  obtain ⟨_, b1641, -⟩ := I1617.1 _ _ t1622
                  have : (59 : Int32).toInt = 59 := by decide
                  refine mv_callV (kc' := 0) (ks' := 0) (As := [.int 59]) (st9 := [.int 59, .ref o0]) d_TrustDeskModel_readRule_254 lV_TrustDeskModel_291 b1641 rfl (tc_TrustDeskModel_wantSign_x (d := (d + 22)) (x9 := x9) (o0 := o0) (x1 := 59) t1622 R1619 E1623.1 (by have := R1619.1 15 _ _ rfl; have := R1619.1 16 _ _ rfl; have := R1619.1 19 _ _ rfl; have := E1623.f yS; omega) I1617.start) rfl (Nat.le_of_ble_eq_true rfl) (Nat.le_of_ble_eq_true rfl) (Nat.le_of_ble_eq_true rfl) (hst := rfl) (fun b1635r M1636 n1637 b1635 => ?_)
                  obtain ⟨T1638, J1639, rfl, R1642, f1643⟩ := b1635
                  have I1640 := I1617.call J1639 (tm_sub (by decide)) (Or.inl rfl)
                  have t1644 := J1639.up t1622
                  have := (rv_c I1617 J1639 (I1617.up h_o0) (k := 22) rfl)
                  have := (rv_c I1617 J1639 (I1617.up h_o0) (k := 24) rfl)
                  have := ra_call I1617 J1639 (I1617.up h_o0) (k := 5) rfl rfl rfl 44
                  have := ra_call I1617 J1639 (I1617.up h_o0) (k := 6) rfl rfl rfl 44
                  have E1645 : rE M0 M1636 o0 1 3 := E1623.trans f1643 (by decide) (yR.2 5 _ _ rfl 44).1 (by decide) (by decide)
                  have := f1643.w
                  have := f1643.w2
                  have := ra_call I1617 J1639 (I1617.up h_o0) (k := 7) rfl rfl rfl ((880 + ra M0 o0 6 44).toNat)
                  have := ra_call I1617 J1639 (I1617.up h_o0) (k := 10) rfl rfl rfl ((880 + ra M0 o0 6 44).toNat)
                  have := ra_call I1617 J1639 (I1617.up h_o0) (k := 8) rfl rfl rfl ((880 + ra M0 o0 6 44).toNat)
                  have := ra_call I1617 J1639 (I1617.up h_o0) (k := 11) rfl rfl rfl ((880 + ra M0 o0 6 44).toNat)
                  have K1646 : rK M0 M1636 o0 ((880 + ra M0 o0 6 44).toNat) := K1624.same (sA_c I1617 J1639 (I1617.up h_o0) (by decide))
                  have K1647 : nN M1636 o0 := K1625.same (sA_c I1617 J1639 (I1617.up h_o0) (by decide)) (sF_c I1617 J1639 (I1617.up h_o0) (by decide))
                  have F1648 : rE M1600 M1636 o0 1 1 := F1626.trans f1643 (by decide) (R1603.2 5 _ _ rfl 44).1 (by decide) (by decide)
                  have q1649 := J1639.keep t1622 (by decide) q1627
                  have t1650 := J1639.up t1628
                  have q1651 := J1639.keep t1622 (by decide) q1629
                  have t1652 := J1639.up t1630
                  have q1653 := J1639.keep t1622 (by decide) q1631
                  have t1654 := J1639.up t1632
                  have q1655 := J1639.keep t1622 (by decide) q1633
                  have t1656 := J1639.up t1634
                  refine mv_aload_n d_TrustDeskModel_readRule_257 rfl rfl ?_
                  obtain ⟨a1658, q1657, t_a1658⟩ := tm_atR I1640 t1644 (k := 12) rfl
                  refine tr_getK q1657 d_TrustDeskModel_readRule_258 f_TrustDeskModel_41_13 ?_
                  refine mv_iload_n d_TrustDeskModel_readRule_261 rfl rfl ?_
                  refine mv_aload_n d_TrustDeskModel_readRule_262 rfl rfl ?_
                  refine tr_getK (k := 5) q1655 d_TrustDeskModel_readRule_263 f_TrustDeskModel_20_13 ?_
                  refine mv_bipush (v := 44) d_TrustDeskModel_readRule_266 (by decide) ?_
                  refine tr_ialdR (o := o0) (k := 5) I1640 q1655 t1656 (by decide) d_TrustDeskModel_readRule_268 (by unfold vp_in; decide) (fun v1659 e1660 => ?_)
                  have := R1642.a (k := 5) rfl (44 : Int32).toNatClampNeg
                  have : v1659.toInt = ra M1636 o0 5 44 := e1660
                  refine tr_iastR (k := 12) I1640 R1642 (I1640.up h_o0) q1657 t_a1658 (by decide) (by decide) (fun lo hi h => by cases h; have := R1642.1 15 _ _ rfl; have := R1642.1 16 _ _ rfl; have := R1642.1 19 _ _ rfl; have := E1645.f yS; exact ⟨by show (0 : Int) ≤ v1659.toInt; omega, by show v1659.toInt ≤ (400 : Int); omega⟩) (Or.inl (by decide)) d_TrustDeskModel_readRule_269 (vp_in_iff.mpr (by have := R1642.1 15 _ _ rfl; have := R1642.1 16 _ _ rfl; have := R1642.1 19 _ _ rfl; have := E1645.f yS; omega)) (fun M1661 I1662 K1663 R1664 E1665 A1666 V1667 => ?_)
                  have := V1667 15
                  have := V1667 16
                  have := V1667 17
                  have := V1667 19
                  have := V1667 22
                  have := V1667 24
                  have := A1666 5 (by decide) rfl 44
                  have := A1666 6 (by decide) rfl 44
                  have E1668 : rE M0 M1661 o0 1 3 := E1645.same (fun k _ _ => V1667 k) (fun k h1 h2 => A1666 k (by omega) (by rcases (show k = 4 ∨ k = 5 by omega) with rfl | rfl <;> rfl))
                  have := A1666 7 (by decide) rfl ((880 + ra M0 o0 6 44).toNat)
                  have := A1666 10 (by decide) rfl ((880 + ra M0 o0 6 44).toNat)
                  have := A1666 8 (by decide) rfl ((880 + ra M0 o0 6 44).toNat)
                  have := A1666 11 (by decide) rfl ((880 + ra M0 o0 6 44).toNat)
                  have h1669 : (880 + ra M0 o0 6 44).toNat = v34.toNatClampNeg := by have := mz_nat9 (i := v34) (by have := R1642.1 15 _ _ rfl; have := R1642.1 16 _ _ rfl; have := R1642.1 19 _ _ rfl; have := E1645.f yS; omega); have := R1642.1 15 _ _ rfl; have := R1642.1 16 _ _ rfl; have := R1642.1 19 _ _ rfl; have := E1645.f yS; omega
                  have : ra M1661 o0 12 ((880 + ra M0 o0 6 44).toNat) = v1659.toInt := (E1665 _).trans (if_pos h1669)
                  have K1670 : rK M0 M1661 o0 ((880 + ra M0 o0 6 44).toNat) := K1646.st A1666 E1665 (by have := mz_nat9 (i := v34) (by have := R1642.1 15 _ _ rfl; have := R1642.1 16 _ _ rfl; have := R1642.1 19 _ _ rfl; have := E1645.f yS; omega); have := R1642.1 15 _ _ rfl; have := R1642.1 16 _ _ rfl; have := R1642.1 19 _ _ rfl; have := E1645.f yS; omega)
                  have K1671 : nN M1661 o0 := K1647.same (sA_a A1666 (by decide)) (sF_a V1667)
                  have F1672 : rE M1600 M1661 o0 1 1 := F1648.same (fun k _ _ => V1667 k) (fun k h1 h2 => A1666 k (by omega) (by rcases (show k = 4 ∨ k = 5 by omega) with rfl | rfl <;> rfl))
                  exact mv_vret d_TrustDeskModel_readRule_270 rfl ⟨_, I1662, rfl, R1664, (rW.of E1668.1 (fun h9 => absurd h9 (by have := R1664.1 15 _ _ rfl; have := R1664.1 16 _ _ rfl; have := R1664.1 19 _ _ rfl; have := E1668.f yS; omega)) (fun h9 => absurd h9 (by have := R1664.1 15 _ _ rfl; have := R1664.1 16 _ _ rfl; have := R1664.1 19 _ _ rfl; have := E1668.f yS; omega))), (rO.of E1668 K1670 (by have := yR.2 6 _ _ rfl 44; omega)), (by have := R1664.1 15 _ _ rfl; have := R1664.1 16 _ _ rfl; have := R1664.1 19 _ _ rfl; have := E1668.f yS; omega), (by have := R1664.1 15 _ _ rfl; have := R1664.1 16 _ _ rfl; have := R1664.1 19 _ _ rfl; have := E1668.f yS; omega)⟩
                · exfalso
                  have := R1563.1 15 _ _ rfl; have := R1563.1 16 _ _ rfl; have := R1563.1 19 _ _ rfl; have := E1566.f yS; omega
          · refine mv_iconst (v := 0) d_TrustDeskModel_readRule_70 (by decide) ?_
            refine mv_goto (tgt := 117) d_TrustDeskModel_readRule_71 (by decide) ?_
            refine tr_iastR (k := 8) I590 R595 (I590.up h_o0) q605 t598 (by decide) (by decide) (fun lo hi h => by cases h; exact (by decide)) (Or.inl (by decide)) d_TrustDeskModel_readRule_117 (vp_in_iff.mpr (by have := R595.1 15 _ _ rfl; have := R595.1 16 _ _ rfl; have := R595.1 19 _ _ rfl; have := E599.f yS; omega)) (fun M1673 I1674 K1675 R1676 E1677 A1678 V1679 => ?_)
            have := V1679 15
            have := V1679 16
            have := V1679 17
            have := V1679 19
            have := V1679 22
            have := V1679 24
            have := A1678 5 (by decide) rfl 44
            have := A1678 6 (by decide) rfl 44
            have E1680 : rE M0 M1673 o0 0 1 := E599.same (fun k _ _ => V1679 k) (fun k h1 h2 => A1678 k (by omega) (by rcases (show k = 4 ∨ k = 5 by omega) with rfl | rfl <;> rfl))
            have := A1678 7 (by decide) rfl ((880 + ra M0 o0 6 44).toNat)
            have := A1678 10 (by decide) rfl ((880 + ra M0 o0 6 44).toNat)
            have h1681 : (880 + ra M0 o0 6 44).toNat = v34.toNatClampNeg := by have := mz_nat9 (i := v34) (by have := R595.1 15 _ _ rfl; have := R595.1 16 _ _ rfl; have := R595.1 19 _ _ rfl; have := E599.f yS; omega); have := R595.1 15 _ _ rfl; have := R595.1 16 _ _ rfl; have := R595.1 19 _ _ rfl; have := E599.f yS; omega
            have : ra M1673 o0 8 ((880 + ra M0 o0 6 44).toNat) = 0 := (E1677 _).trans (if_pos h1681)
            have K1682 : rK M0 M1673 o0 ((880 + ra M0 o0 6 44).toNat) := K600.st A1678 E1677 (by have := mz_nat9 (i := v34) (by have := R595.1 15 _ _ rfl; have := R595.1 16 _ _ rfl; have := R595.1 19 _ _ rfl; have := E599.f yS; omega); have := R595.1 15 _ _ rfl; have := R595.1 16 _ _ rfl; have := R595.1 19 _ _ rfl; have := E599.f yS; omega)
            have K1683 : nN M1673 o0 := K601.same (sA_a A1678 (by decide)) (sF_a V1679)
            refine mv_aload_n d_TrustDeskModel_readRule_118 rfl rfl ?_
            refine tr_getK (k := 8) (K1675 _ 13 8 _ q605) d_TrustDeskModel_readRule_119 f_TrustDeskModel_29_13 ?_
            refine mv_iload_n d_TrustDeskModel_readRule_122 rfl rfl ?_
            refine tr_ialdR (o := o0) (k := 8) I1674 (K1675 _ 13 8 _ q605) t598 (by decide) d_TrustDeskModel_readRule_123 (vp_in_iff.mpr (by have := R1676.1 15 _ _ rfl; have := R1676.1 16 _ _ rfl; have := R1676.1 19 _ _ rfl; have := E1680.f yS; omega)) (fun v1684 e1685 => ?_)
            have := R1676.a (k := 8) rfl (v34 : Int32).toNatClampNeg
            have h1686 : (880 + ra M0 o0 6 44).toNat = v34.toNatClampNeg := by have := mz_nat9 (i := v34) (by have := R1676.1 15 _ _ rfl; have := R1676.1 16 _ _ rfl; have := R1676.1 19 _ _ rfl; have := E1680.f yS; omega); have := R1676.1 15 _ _ rfl; have := R1676.1 16 _ _ rfl; have := R1676.1 19 _ _ rfl; have := E1680.f yS; omega
            have : v1684.toInt = ra M1673 o0 8 ((880 + ra M0 o0 6 44).toNat) := by rw [e1685, h1686]
            refine mv_iconst (v := (-1)) d_TrustDeskModel_readRule_124 (by decide) ?_
            have := mz_hi v1684
            refine mv_icmp_neZ (tgt := 133) (a := v1684.toInt) (b := (-1)) d_TrustDeskModel_readRule_125 (by decide) rfl (by decide) (fun b1687 => ?_) (fun b1687 => ?_)
            · refine mv_aload_n d_TrustDeskModel_readRule_133 rfl rfl ?_
              obtain ⟨_, b1688, -⟩ := I1674.1 _ _ t597
              refine mv_callV (kc1 := 0) (ks1 := 0) (kc' := 0) (ks' := 0) (As := []) (st9 := [.ref o0]) d_TrustDeskModel_readRule_134 lV_TrustDeskModel_230 b1688 rfl (mj_enter (by decide) (Nat.le_of_ble_eq_true rfl) ?_) rfl (Nat.le_of_ble_eq_true rfl) (Nat.le_of_ble_eq_true rfl) (Nat.le_of_ble_eq_true rfl) (hst := rfl) (fun _ _ _ h => h)
              refine mv_aload_n d_TrustDeskModel_isWell_0 rfl rfl ?_
              refine tr_getK (k := 19) (K1675 _ 13 19 _ q604) d_TrustDeskModel_isWell_1 f_TrustDeskModel_224_13 ?_
              have := mz_hi v25
              refine mv_if_neZ (tgt := 11) (a := v25.toInt) d_TrustDeskModel_isWell_4 (by decide) rfl (fun b1689 => absurd b1689 (by omega)) (fun b1689 => ?_)
              refine mv_iconst (v := 1) d_TrustDeskModel_isWell_7 (by decide) ?_
              refine mv_goto (tgt := 12) d_TrustDeskModel_isWell_8 (by decide) ?_
              refine mv_iret d_TrustDeskModel_isWell_12 rfl (by decide) ?_
              refine mv_if_eq_f (tgt := 144) d_TrustDeskModel_readRule_137 (by decide) (by decide) ?_
              refine mv_aload_n d_TrustDeskModel_readRule_140 rfl rfl ?_
              obtain ⟨_, b1696, -⟩ := I1674.1 _ _ t597
              refine mv_callV (kc' := 0) (ks' := 0) (As := []) (st9 := [.ref o0]) d_TrustDeskModel_readRule_141 lV_TrustDeskModel_237 b1696 rfl (tc_TrustDeskModel_next_x (d := (d + 23)) (x9 := x9) (o0 := o0) t597 R1676 I1674.start) rfl (Nat.le_of_ble_eq_true rfl) (Nat.le_of_ble_eq_true rfl) (Nat.le_of_ble_eq_true rfl) (hst := rfl) (fun b1690r M1691 n1692 b1690 => ?_)
              obtain ⟨T1693, J1694, rfl, R1697, f1698, f1699⟩ := b1690
              have I1695 := I1674.call J1694 (tm_sub (by decide)) (Or.inl rfl)
              have t1700 := J1694.up t597
              have := (rv_c I1674 J1694 (I1674.up h_o0) (k := 19) rfl)
              have := (rv_c I1674 J1694 (I1674.up h_o0) (k := 22) rfl)
              have := (rv_c I1674 J1694 (I1674.up h_o0) (k := 24) rfl)
              have := ra_call I1674 J1694 (I1674.up h_o0) (k := 5) rfl rfl rfl 44
              have := ra_call I1674 J1694 (I1674.up h_o0) (k := 6) rfl rfl rfl 44
              have h1702 : rv M1673 o0 16 + 1 ≤ rv M1673 o0 15 := (by have := R1676.1 15 _ _ rfl; have := R1676.1 16 _ _ rfl; have := R1676.1 19 _ _ rfl; have := E1680.f yS; omega)
              have E1701 : rE M0 M1691 o0 0 2 := E1680.next f1698 f1699 (rv_c I1674 J1694 (I1674.up h_o0) (k := 19) rfl) (rE_ha I1674 J1694 (I1674.up h_o0) (by decide)) (e := 1) h1702 (by decide)
              have := ra_call I1674 J1694 (I1674.up h_o0) (k := 7) rfl rfl rfl ((880 + ra M0 o0 6 44).toNat)
              have := ra_call I1674 J1694 (I1674.up h_o0) (k := 10) rfl rfl rfl ((880 + ra M0 o0 6 44).toNat)
              have := ra_call I1674 J1694 (I1674.up h_o0) (k := 8) rfl rfl rfl ((880 + ra M0 o0 6 44).toNat)
              have K1703 : rK M0 M1691 o0 ((880 + ra M0 o0 6 44).toNat) := K1682.same (sA_c I1674 J1694 (I1674.up h_o0) (by decide))
              have K1704 : nN M1691 o0 := K1683.same (sA_c I1674 J1694 (I1674.up h_o0) (by decide)) (sF_c I1674 J1694 (I1674.up h_o0) (by decide))
              have q1705 := J1694.keep t597 (by decide) (K1675 _ 13 6 _ q602)
              have t1706 := J1694.up t603
              have q1707 := J1694.keep t597 (by decide) (K1675 _ 13 19 _ q604)
              have q1708 := J1694.keep t597 (by decide) (K1675 _ 13 8 _ q605)
              have t1709 := J1694.up t598
              refine mv_aload_n d_TrustDeskModel_readRule_144 rfl rfl ?_
              refine mv_ldcSw (id := 25) (tx := "if") d_TrustDeskModel_readRule_145 (List.mem_of_getElem? (i := 15) rfl) ?_
              obtain ⟨_, b1716, -⟩ := I1695.1 _ _ t1700
              refine mv_callV (kc' := 0) (ks' := 0) (As := [.ref 25]) (st9 := [.ref 25, .ref o0]) d_TrustDeskModel_readRule_148 lV_TrustDeskModel_329 b1716 rfl (tc_TrustDeskModel_wantWord_s1_25_x (d := (d + 19)) (x9 := x9) (o0 := o0) t1700 R1697 E1701.1 (by have := R1697.1 15 _ _ rfl; have := R1697.1 16 _ _ rfl; have := R1697.1 19 _ _ rfl; have := E1701.f yS; omega) I1695.start) rfl (Nat.le_of_ble_eq_true rfl) (Nat.le_of_ble_eq_true rfl) (Nat.le_of_ble_eq_true rfl) (hst := rfl) (fun b1710r M1711 n1712 b1710 => ?_)
              obtain ⟨T1713, J1714, rfl, R1717, f1718⟩ := b1710
              have I1715 := I1695.call J1714 (tm_sub (by decide)) (Or.inl rfl)
              have t1719 := J1714.up t1700
              have := (rv_c I1695 J1714 (I1695.up h_o0) (k := 22) rfl)
              have := (rv_c I1695 J1714 (I1695.up h_o0) (k := 24) rfl)
              have := ra_call I1695 J1714 (I1695.up h_o0) (k := 5) rfl rfl rfl 44
              have := ra_call I1695 J1714 (I1695.up h_o0) (k := 6) rfl rfl rfl 44
              have E1720 : rE M0 M1711 o0 0 3 := E1701.trans f1718 (by decide) (yR.2 5 _ _ rfl 44).1 (by decide) (by decide)
              have := f1718.w
              have := f1718.w2
              have := ra_call I1695 J1714 (I1695.up h_o0) (k := 7) rfl rfl rfl ((880 + ra M0 o0 6 44).toNat)
              have := ra_call I1695 J1714 (I1695.up h_o0) (k := 10) rfl rfl rfl ((880 + ra M0 o0 6 44).toNat)
              have := ra_call I1695 J1714 (I1695.up h_o0) (k := 8) rfl rfl rfl ((880 + ra M0 o0 6 44).toNat)
              have K1721 : rK M0 M1711 o0 ((880 + ra M0 o0 6 44).toNat) := K1703.same (sA_c I1695 J1714 (I1695.up h_o0) (by decide))
              have K1722 : nN M1711 o0 := K1704.same (sA_c I1695 J1714 (I1695.up h_o0) (by decide)) (sF_c I1695 J1714 (I1695.up h_o0) (by decide))
              have q1723 := J1714.keep t1700 (by decide) q1705
              have t1724 := J1714.up t1706
              have q1725 := J1714.keep t1700 (by decide) q1708
              have t1726 := J1714.up t1709
              refine mv_aload_n d_TrustDeskModel_readRule_151 rfl rfl ?_
              obtain ⟨a1728, q1727, t_a1728⟩ := tm_atR I1715 t1719 (k := 11) rfl
              refine tr_getK q1727 d_TrustDeskModel_readRule_152 f_TrustDeskModel_38_13 ?_
              refine mv_iload_n d_TrustDeskModel_readRule_155 rfl rfl ?_
              refine mv_aload_n d_TrustDeskModel_readRule_156 rfl rfl ?_
              obtain ⟨a1730, q1729, t_a1730⟩ := tm_atR I1715 t1719 (k := 5) rfl
              refine tr_getK q1729 d_TrustDeskModel_readRule_157 f_TrustDeskModel_20_13 ?_
              refine mv_bipush (v := 44) d_TrustDeskModel_readRule_160 (by decide) ?_
              refine tr_ialdR (o := o0) (k := 5) I1715 q1729 t_a1730 (by decide) d_TrustDeskModel_readRule_162 (by unfold vp_in; decide) (fun v1731 e1732 => ?_)
              have := R1717.a (k := 5) rfl (44 : Int32).toNatClampNeg
              have : v1731.toInt = ra M1711 o0 5 44 := e1732
              refine tr_iastR (k := 11) I1715 R1717 (I1715.up h_o0) q1727 t_a1728 (by decide) (by decide) (fun lo hi h => by cases h; have := R1717.1 15 _ _ rfl; have := R1717.1 16 _ _ rfl; have := R1717.1 19 _ _ rfl; have := E1720.f yS; exact ⟨by show (0 : Int) ≤ v1731.toInt; omega, by show v1731.toInt ≤ (400 : Int); omega⟩) (Or.inl (by decide)) d_TrustDeskModel_readRule_163 (vp_in_iff.mpr (by have := R1717.1 15 _ _ rfl; have := R1717.1 16 _ _ rfl; have := R1717.1 19 _ _ rfl; have := E1720.f yS; omega)) (fun M1733 I1734 K1735 R1736 E1737 A1738 V1739 => ?_)
              have := V1739 15
              have := V1739 16
              have := V1739 17
              have := V1739 19
              have := V1739 22
              have := V1739 24
              have := A1738 5 (by decide) rfl 44
              have := A1738 6 (by decide) rfl 44
              have E1740 : rE M0 M1733 o0 0 3 := E1720.same (fun k _ _ => V1739 k) (fun k h1 h2 => A1738 k (by omega) (by rcases (show k = 4 ∨ k = 5 by omega) with rfl | rfl <;> rfl))
              have := A1738 7 (by decide) rfl ((880 + ra M0 o0 6 44).toNat)
              have := A1738 10 (by decide) rfl ((880 + ra M0 o0 6 44).toNat)
              have := A1738 8 (by decide) rfl ((880 + ra M0 o0 6 44).toNat)
              have h1741 : (880 + ra M0 o0 6 44).toNat = v34.toNatClampNeg := by have := mz_nat9 (i := v34) (by have := R1717.1 15 _ _ rfl; have := R1717.1 16 _ _ rfl; have := R1717.1 19 _ _ rfl; have := E1720.f yS; omega); have := R1717.1 15 _ _ rfl; have := R1717.1 16 _ _ rfl; have := R1717.1 19 _ _ rfl; have := E1720.f yS; omega
              have : ra M1733 o0 11 ((880 + ra M0 o0 6 44).toNat) = v1731.toInt := (E1737 _).trans (if_pos h1741)
              have K1742 : rK M0 M1733 o0 ((880 + ra M0 o0 6 44).toNat) := K1721.st A1738 E1737 (by have := mz_nat9 (i := v34) (by have := R1717.1 15 _ _ rfl; have := R1717.1 16 _ _ rfl; have := R1717.1 19 _ _ rfl; have := E1720.f yS; omega); have := R1717.1 15 _ _ rfl; have := R1717.1 16 _ _ rfl; have := R1717.1 19 _ _ rfl; have := E1720.f yS; omega)
              have K1743 : nN M1733 o0 := K1722.same (sA_a A1738 (by decide)) (sF_a V1739)
              have F1744 : rE M1733 M1733 o0 0 0 := rE.rf E1740.1
              refine mv_aload_n d_TrustDeskModel_readRule_164 rfl rfl ?_
              obtain ⟨_, b1751, -⟩ := I1734.1 _ _ t1719
              refine mv_callV (kc' := 0) (ks' := 0) (As := []) (st9 := [.ref o0]) d_TrustDeskModel_readRule_165 lV_TrustDeskModel_302 b1751 rfl (tc_TrustDeskModel_cond_q5_x (d := d) (x9 := x9) (o0 := o0) t1719 R1736 E1740.1 (by have := R1736.1 15 _ _ rfl; have := R1736.1 16 _ _ rfl; have := R1736.1 19 _ _ rfl; have := E1740.f yS; omega) (by have := R1736.1 15 _ _ rfl; have := R1736.1 16 _ _ rfl; have := R1736.1 19 _ _ rfl; have := E1740.f yS; omega) I1734.start) rfl (Nat.le_of_ble_eq_true rfl) (Nat.le_of_ble_eq_true rfl) (Nat.le_of_ble_eq_true rfl) (hst := rfl) (fun b1745r M1746 n1747 b1745 => ?_)
              obtain ⟨T1748, J1749, rfl, R1752, f1753, f1754⟩ := b1745
              have I1750 := I1734.call J1749 (tm_sub (by decide)) (Or.inl rfl)
              have t1755 := J1749.up t1719
              have := (rv_c I1734 J1749 (I1734.up h_o0) (k := 24) rfl)
              have := ra_call I1734 J1749 (I1734.up h_o0) (k := 6) rfl rfl rfl 44
              have E1756 : rE M0 M1746 o0 1 3 := E1740.trans f1753 (by decide) (yR.2 5 _ _ rfl 44).1 (by decide) (by decide)
              have := f1753.w
              have := f1753.w2
              have := ra_call I1734 J1749 (I1734.up h_o0) (k := 7) rfl rfl rfl ((880 + ra M0 o0 6 44).toNat)
              have := ra_call I1734 J1749 (I1734.up h_o0) (k := 10) rfl rfl rfl ((880 + ra M0 o0 6 44).toNat)
              have := ra_call I1734 J1749 (I1734.up h_o0) (k := 8) rfl rfl rfl ((880 + ra M0 o0 6 44).toNat)
              have := ra_call I1734 J1749 (I1734.up h_o0) (k := 11) rfl rfl rfl ((880 + ra M0 o0 6 44).toNat)
              have K1757 : rK M0 M1746 o0 ((880 + ra M0 o0 6 44).toNat) := K1742.same (sA_c I1734 J1749 (I1734.up h_o0) (by decide))
              have K1758 : nN M1746 o0 := K1743.same (sA_c I1734 J1749 (I1734.up h_o0) (by decide)) (sF_c I1734 J1749 (I1734.up h_o0) (by decide))
              have F1759 : rE M1733 M1746 o0 1 0 := F1744.trans f1753 (by decide) (R1736.2 5 _ _ rfl 44).1 (by decide) (by decide)
              have q1760 := J1749.keep t1719 (by decide) (K1735 _ 13 6 _ q1723)
              have t1761 := J1749.up t1724
              have q1762 := J1749.keep t1719 (by decide) (K1735 _ 13 8 _ q1725)
              have t1763 := J1749.up t1726
              have q1764 := J1749.keep t1719 (by decide) (K1735 _ 13 11 _ q1727)
              have t1765 := J1749.up t_a1728
              have q1766 := J1749.keep t1719 (by decide) (K1735 _ 13 5 _ q1729)
              have t1767 := J1749.up t_a1730
              refine mv_goto (tgt := 251) d_TrustDeskModel_readRule_168 (by decide) ?_
              refine mv_aload_n d_TrustDeskModel_readRule_251 rfl rfl ?_
              refine mv_bipush (v := 59) d_TrustDeskModel_readRule_252 (by decide) ?_
              obtain ⟨_, b1774, -⟩ := I1750.1 _ _ t1755
              have : (59 : Int32).toInt = 59 := by decide
              refine mv_callV (kc' := 0) (ks' := 0) (As := [.int 59]) (st9 := [.int 59, .ref o0]) d_TrustDeskModel_readRule_254 lV_TrustDeskModel_291 b1774 rfl (tc_TrustDeskModel_wantSign_x (d := (d + 22)) (x9 := x9) (o0 := o0) (x1 := 59) t1755 R1752 E1756.1 (by have := R1752.1 15 _ _ rfl; have := R1752.1 16 _ _ rfl; have := R1752.1 19 _ _ rfl; have := E1756.f yS; omega) I1750.start) rfl (Nat.le_of_ble_eq_true rfl) (Nat.le_of_ble_eq_true rfl) (Nat.le_of_ble_eq_true rfl) (hst := rfl) (fun b1768r M1769 n1770 b1768 => ?_)
              obtain ⟨T1771, J1772, rfl, R1775, f1776⟩ := b1768
              have I1773 := I1750.call J1772 (tm_sub (by decide)) (Or.inl rfl)
              have t1777 := J1772.up t1755
              have := (rv_c I1750 J1772 (I1750.up h_o0) (k := 22) rfl)
              have := (rv_c I1750 J1772 (I1750.up h_o0) (k := 24) rfl)
              have := ra_call I1750 J1772 (I1750.up h_o0) (k := 5) rfl rfl rfl 44
              have := ra_call I1750 J1772 (I1750.up h_o0) (k := 6) rfl rfl rfl 44
              have E1778 : rE M0 M1769 o0 1 4 := E1756.trans f1776 (by decide) (yR.2 5 _ _ rfl 44).1 (by decide) (by decide)
              have := f1776.w
              have := f1776.w2
              have := ra_call I1750 J1772 (I1750.up h_o0) (k := 7) rfl rfl rfl ((880 + ra M0 o0 6 44).toNat)
              have := ra_call I1750 J1772 (I1750.up h_o0) (k := 10) rfl rfl rfl ((880 + ra M0 o0 6 44).toNat)
              have := ra_call I1750 J1772 (I1750.up h_o0) (k := 8) rfl rfl rfl ((880 + ra M0 o0 6 44).toNat)
              have := ra_call I1750 J1772 (I1750.up h_o0) (k := 11) rfl rfl rfl ((880 + ra M0 o0 6 44).toNat)
              have K1779 : rK M0 M1769 o0 ((880 + ra M0 o0 6 44).toNat) := K1757.same (sA_c I1750 J1772 (I1750.up h_o0) (by decide))
              have K1780 : nN M1769 o0 := K1758.same (sA_c I1750 J1772 (I1750.up h_o0) (by decide)) (sF_c I1750 J1772 (I1750.up h_o0) (by decide))
              have F1781 : rE M1733 M1769 o0 1 1 := F1759.trans f1776 (by decide) (R1736.2 5 _ _ rfl 44).1 (by decide) (by decide)
              have q1782 := J1772.keep t1755 (by decide) q1760
              have t1783 := J1772.up t1761
              have q1784 := J1772.keep t1755 (by decide) q1762
              have t1785 := J1772.up t1763
              have q1786 := J1772.keep t1755 (by decide) q1764
              have t1787 := J1772.up t1765
              have q1788 := J1772.keep t1755 (by decide) q1766
              have t1789 := J1772.up t1767
              refine mv_aload_n d_TrustDeskModel_readRule_257 rfl rfl ?_
              obtain ⟨a1791, q1790, t_a1791⟩ := tm_atR I1773 t1777 (k := 12) rfl
              refine tr_getK q1790 d_TrustDeskModel_readRule_258 f_TrustDeskModel_41_13 ?_
              refine mv_iload_n d_TrustDeskModel_readRule_261 rfl rfl ?_
              refine mv_aload_n d_TrustDeskModel_readRule_262 rfl rfl ?_
              refine tr_getK (k := 5) q1788 d_TrustDeskModel_readRule_263 f_TrustDeskModel_20_13 ?_
              refine mv_bipush (v := 44) d_TrustDeskModel_readRule_266 (by decide) ?_
              refine tr_ialdR (o := o0) (k := 5) I1773 q1788 t1789 (by decide) d_TrustDeskModel_readRule_268 (by unfold vp_in; decide) (fun v1792 e1793 => ?_)
              have := R1775.a (k := 5) rfl (44 : Int32).toNatClampNeg
              have : v1792.toInt = ra M1769 o0 5 44 := e1793
              refine tr_iastR (k := 12) I1773 R1775 (I1773.up h_o0) q1790 t_a1791 (by decide) (by decide) (fun lo hi h => by cases h; have := R1775.1 15 _ _ rfl; have := R1775.1 16 _ _ rfl; have := R1775.1 19 _ _ rfl; have := E1778.f yS; exact ⟨by show (0 : Int) ≤ v1792.toInt; omega, by show v1792.toInt ≤ (400 : Int); omega⟩) (Or.inl (by decide)) d_TrustDeskModel_readRule_269 (vp_in_iff.mpr (by have := R1775.1 15 _ _ rfl; have := R1775.1 16 _ _ rfl; have := R1775.1 19 _ _ rfl; have := E1778.f yS; omega)) (fun M1794 I1795 K1796 R1797 E1798 A1799 V1800 => ?_)
              have := V1800 15
              have := V1800 16
              have := V1800 17
              have := V1800 19
              have := V1800 22
              have := V1800 24
              have := A1799 5 (by decide) rfl 44
              have := A1799 6 (by decide) rfl 44
              have E1801 : rE M0 M1794 o0 1 4 := E1778.same (fun k _ _ => V1800 k) (fun k h1 h2 => A1799 k (by omega) (by rcases (show k = 4 ∨ k = 5 by omega) with rfl | rfl <;> rfl))
              have := A1799 7 (by decide) rfl ((880 + ra M0 o0 6 44).toNat)
              have := A1799 10 (by decide) rfl ((880 + ra M0 o0 6 44).toNat)
              have := A1799 8 (by decide) rfl ((880 + ra M0 o0 6 44).toNat)
              have := A1799 11 (by decide) rfl ((880 + ra M0 o0 6 44).toNat)
              have h1802 : (880 + ra M0 o0 6 44).toNat = v34.toNatClampNeg := by have := mz_nat9 (i := v34) (by have := R1775.1 15 _ _ rfl; have := R1775.1 16 _ _ rfl; have := R1775.1 19 _ _ rfl; have := E1778.f yS; omega); have := R1775.1 15 _ _ rfl; have := R1775.1 16 _ _ rfl; have := R1775.1 19 _ _ rfl; have := E1778.f yS; omega
              have : ra M1794 o0 12 ((880 + ra M0 o0 6 44).toNat) = v1792.toInt := (E1798 _).trans (if_pos h1802)
              have K1803 : rK M0 M1794 o0 ((880 + ra M0 o0 6 44).toNat) := K1779.st A1799 E1798 (by have := mz_nat9 (i := v34) (by have := R1775.1 15 _ _ rfl; have := R1775.1 16 _ _ rfl; have := R1775.1 19 _ _ rfl; have := E1778.f yS; omega); have := R1775.1 15 _ _ rfl; have := R1775.1 16 _ _ rfl; have := R1775.1 19 _ _ rfl; have := E1778.f yS; omega)
              have K1804 : nN M1794 o0 := K1780.same (sA_a A1799 (by decide)) (sF_a V1800)
              have F1805 : rE M1733 M1794 o0 1 1 := F1781.same (fun k _ _ => V1800 k) (fun k h1 h2 => A1799 k (by omega) (by rcases (show k = 4 ∨ k = 5 by omega) with rfl | rfl <;> rfl))
              exact mv_vret d_TrustDeskModel_readRule_270 rfl ⟨_, I1795, rfl, R1797, (rW.of E1801.1 (fun w9 => (by have := R1797.1 15 _ _ rfl; have := R1797.1 16 _ _ rfl; have := R1797.1 19 _ _ rfl; have := E1801.f yS; omega)) (fun w9 => rG.step yG yR E1801 w9 K1803 (by have := yR.2 6 _ _ rfl 44; omega) (by have := R1797.1 15 _ _ rfl; have := R1797.1 16 _ _ rfl; have := R1797.1 19 _ _ rfl; have := E1801.f yS; omega) (by have := R1797.1 15 _ _ rfl; have := R1797.1 16 _ _ rfl; have := R1797.1 19 _ _ rfl; have := E1801.f yS; omega) (fun _ => rowN.of E1740 F1805 w9 (by decide) (by decide) (yR.2 5 _ _ rfl 44).1 (by have := R1797.1 15 _ _ rfl; have := R1797.1 16 _ _ rfl; have := R1797.1 19 _ _ rfl; have := E1801.f yS; omega) (by have := R1797.1 15 _ _ rfl; have := R1797.1 16 _ _ rfl; have := R1797.1 19 _ _ rfl; have := E1801.f yS; omega) (by have := R1797.1 15 _ _ rfl; have := R1797.1 16 _ _ rfl; have := R1797.1 19 _ _ rfl; have := E1801.f yS; omega)) (fun h9 => (by have := R1797.1 15 _ _ rfl; have := R1797.1 16 _ _ rfl; have := R1797.1 19 _ _ rfl; have := E1801.f yS; omega)) (by have := R1797.1 15 _ _ rfl; have := R1797.1 16 _ _ rfl; have := R1797.1 19 _ _ rfl; have := E1801.f yS; omega) K1804)), (rO.of E1801 K1803 (by have := yR.2 6 _ _ rfl 44; omega)), (by have := R1797.1 15 _ _ rfl; have := R1797.1 16 _ _ rfl; have := R1797.1 19 _ _ rfl; have := E1801.f yS; omega), (by have := R1797.1 15 _ _ rfl; have := R1797.1 16 _ _ rfl; have := R1797.1 19 _ _ rfl; have := E1801.f yS; omega)⟩
            · refine mv_aload_n d_TrustDeskModel_readRule_128 rfl rfl ?_
              refine mv_iconst (v := 1) d_TrustDeskModel_readRule_129 (by decide) ?_
              obtain ⟨_, b1812, -⟩ := I1674.1 _ _ t597
              have : (1 : Int32).toInt = 1 := by decide
              refine mv_callV (kc' := 0) (ks' := 0) (As := [.int 1]) (st9 := [.int 1, .ref o0]) d_TrustDeskModel_readRule_130 lV_TrustDeskModel_240 b1812 rfl (tc_TrustDeskModel_fails_x (d := (d + 24)) (x9 := x9) (o0 := o0) (x1 := 1) t597 R1676 (by decide) I1674.start) rfl (Nat.le_of_ble_eq_true rfl) (Nat.le_of_ble_eq_true rfl) (Nat.le_of_ble_eq_true rfl) (hst := rfl) (fun b1806r M1807 n1808 b1806 => ?_)
              obtain ⟨T1809, J1810, rfl, R1813, f1814⟩ := b1806
              have I1811 := I1674.call J1810 (tm_sub (by decide)) (Or.inl rfl)
              have t1815 := J1810.up t597
              have := (rv_c I1674 J1810 (I1674.up h_o0) (k := 15) rfl)
              have := (rv_c I1674 J1810 (I1674.up h_o0) (k := 16) rfl)
              have := (rv_c I1674 J1810 (I1674.up h_o0) (k := 17) rfl)
              have := (rv_c I1674 J1810 (I1674.up h_o0) (k := 22) rfl)
              have := (rv_c I1674 J1810 (I1674.up h_o0) (k := 24) rfl)
              have := ra_call I1674 J1810 (I1674.up h_o0) (k := 5) rfl rfl rfl 44
              have := ra_call I1674 J1810 (I1674.up h_o0) (k := 6) rfl rfl rfl 44
              have E1816 : rE M0 M1807 o0 0 1 := E1680.fails (rE_hv I1674 J1810 (I1674.up h_o0) 15 18 (by decide)) (rE_ha I1674 J1810 (I1674.up h_o0) (by decide)) f1814 0 1
              have := ra_call I1674 J1810 (I1674.up h_o0) (k := 7) rfl rfl rfl ((880 + ra M0 o0 6 44).toNat)
              have := ra_call I1674 J1810 (I1674.up h_o0) (k := 10) rfl rfl rfl ((880 + ra M0 o0 6 44).toNat)
              have := ra_call I1674 J1810 (I1674.up h_o0) (k := 8) rfl rfl rfl ((880 + ra M0 o0 6 44).toNat)
              have K1817 : rK M0 M1807 o0 ((880 + ra M0 o0 6 44).toNat) := K1682.same (sA_c I1674 J1810 (I1674.up h_o0) (by decide))
              have K1818 : nN M1807 o0 := K1683.same (sA_c I1674 J1810 (I1674.up h_o0) (by decide)) (sF_c I1674 J1810 (I1674.up h_o0) (by decide))
              have q1819 := J1810.keep t597 (by decide) (K1675 _ 13 6 _ q602)
              have t1820 := J1810.up t603
              have q1821 := J1810.keep t597 (by decide) (K1675 _ 13 8 _ q605)
              have t1822 := J1810.up t598
              refine mv_aload_n d_TrustDeskModel_readRule_133 rfl rfl ?_
              obtain ⟨_, b1823, -⟩ := I1811.1 _ _ t1815
              refine mv_callV (kc1 := 0) (ks1 := 0) (kc' := 0) (ks' := 0) (As := []) (st9 := [.ref o0]) d_TrustDeskModel_readRule_134 lV_TrustDeskModel_230 b1823 rfl (mj_enter (by decide) (Nat.le_of_ble_eq_true rfl) ?_) rfl (Nat.le_of_ble_eq_true rfl) (Nat.le_of_ble_eq_true rfl) (Nat.le_of_ble_eq_true rfl) (hst := rfl) (fun _ _ _ h => h)
              refine mv_aload_n d_TrustDeskModel_isWell_0 rfl rfl ?_
              obtain ⟨v1825, q1824⟩ := tm_atI I1811 t1815 (k := 19) rfl
              refine tr_getK q1824 d_TrustDeskModel_isWell_1 f_TrustDeskModel_224_13 ?_
              have := R1813.f (k := 19) q1824 rfl
              have := tm_rv q1824
              refine mv_if_neZ (tgt := 11) (a := v1825.toInt) d_TrustDeskModel_isWell_4 (by decide) rfl (fun b1826 => ?_) (fun b1826 => ?_)
              · refine mv_iconst (v := 0) d_TrustDeskModel_isWell_11 (by decide) ?_
                refine mv_iret d_TrustDeskModel_isWell_12 rfl (by decide) ?_
                refine mv_if_eq_t (tgt := 144) d_TrustDeskModel_readRule_137 (by decide) (by decide) ?_
                refine mv_aload_n d_TrustDeskModel_readRule_144 rfl rfl ?_
                refine mv_ldcSw (id := 25) (tx := "if") d_TrustDeskModel_readRule_145 (List.mem_of_getElem? (i := 15) rfl) ?_
                obtain ⟨_, b1833, -⟩ := I1811.1 _ _ t1815
                refine mv_callV (kc' := 0) (ks' := 0) (As := [.ref 25]) (st9 := [.ref 25, .ref o0]) d_TrustDeskModel_readRule_148 lV_TrustDeskModel_329 b1833 rfl (tc_TrustDeskModel_wantWord_s1_25_x (d := (d + 19)) (x9 := x9) (o0 := o0) t1815 R1813 E1816.1 (by have := R1813.1 15 _ _ rfl; have := R1813.1 16 _ _ rfl; have := R1813.1 19 _ _ rfl; have := E1816.f yS; omega) I1811.start) rfl (Nat.le_of_ble_eq_true rfl) (Nat.le_of_ble_eq_true rfl) (Nat.le_of_ble_eq_true rfl) (hst := rfl) (fun b1827r M1828 n1829 b1827 => ?_)
                obtain ⟨T1830, J1831, rfl, R1834, f1835⟩ := b1827
                have I1832 := I1811.call J1831 (tm_sub (by decide)) (Or.inl rfl)
                have t1836 := J1831.up t1815
                have := (rv_c I1811 J1831 (I1811.up h_o0) (k := 22) rfl)
                have := (rv_c I1811 J1831 (I1811.up h_o0) (k := 24) rfl)
                have := ra_call I1811 J1831 (I1811.up h_o0) (k := 5) rfl rfl rfl 44
                have := ra_call I1811 J1831 (I1811.up h_o0) (k := 6) rfl rfl rfl 44
                have E1837 : rE M0 M1828 o0 0 2 := E1816.trans f1835 (by decide) (yR.2 5 _ _ rfl 44).1 (by decide) (by decide)
                have := f1835.w
                have := f1835.w2
                have := ra_call I1811 J1831 (I1811.up h_o0) (k := 7) rfl rfl rfl ((880 + ra M0 o0 6 44).toNat)
                have := ra_call I1811 J1831 (I1811.up h_o0) (k := 10) rfl rfl rfl ((880 + ra M0 o0 6 44).toNat)
                have := ra_call I1811 J1831 (I1811.up h_o0) (k := 8) rfl rfl rfl ((880 + ra M0 o0 6 44).toNat)
                have K1838 : rK M0 M1828 o0 ((880 + ra M0 o0 6 44).toNat) := K1817.same (sA_c I1811 J1831 (I1811.up h_o0) (by decide))
                have K1839 : nN M1828 o0 := K1818.same (sA_c I1811 J1831 (I1811.up h_o0) (by decide)) (sF_c I1811 J1831 (I1811.up h_o0) (by decide))
                have q1840 := J1831.keep t1815 (by decide) q1819
                have t1841 := J1831.up t1820
                have q1842 := J1831.keep t1815 (by decide) q1821
                have t1843 := J1831.up t1822
                refine mv_aload_n d_TrustDeskModel_readRule_151 rfl rfl ?_
                obtain ⟨a1845, q1844, t_a1845⟩ := tm_atR I1832 t1836 (k := 11) rfl
                refine tr_getK q1844 d_TrustDeskModel_readRule_152 f_TrustDeskModel_38_13 ?_
                refine mv_iload_n d_TrustDeskModel_readRule_155 rfl rfl ?_
                refine mv_aload_n d_TrustDeskModel_readRule_156 rfl rfl ?_
                obtain ⟨a1847, q1846, t_a1847⟩ := tm_atR I1832 t1836 (k := 5) rfl
                refine tr_getK q1846 d_TrustDeskModel_readRule_157 f_TrustDeskModel_20_13 ?_
                refine mv_bipush (v := 44) d_TrustDeskModel_readRule_160 (by decide) ?_
                refine tr_ialdR (o := o0) (k := 5) I1832 q1846 t_a1847 (by decide) d_TrustDeskModel_readRule_162 (by unfold vp_in; decide) (fun v1848 e1849 => ?_)
                have := R1834.a (k := 5) rfl (44 : Int32).toNatClampNeg
                have : v1848.toInt = ra M1828 o0 5 44 := e1849
                refine tr_iastR (k := 11) I1832 R1834 (I1832.up h_o0) q1844 t_a1845 (by decide) (by decide) (fun lo hi h => by cases h; have := R1834.1 15 _ _ rfl; have := R1834.1 16 _ _ rfl; have := R1834.1 19 _ _ rfl; have := E1837.f yS; exact ⟨by show (0 : Int) ≤ v1848.toInt; omega, by show v1848.toInt ≤ (400 : Int); omega⟩) (Or.inl (by decide)) d_TrustDeskModel_readRule_163 (vp_in_iff.mpr (by have := R1834.1 15 _ _ rfl; have := R1834.1 16 _ _ rfl; have := R1834.1 19 _ _ rfl; have := E1837.f yS; omega)) (fun M1850 I1851 K1852 R1853 E1854 A1855 V1856 => ?_)
                have := V1856 15
                have := V1856 16
                have := V1856 17
                have := V1856 19
                have := V1856 22
                have := V1856 24
                have := A1855 5 (by decide) rfl 44
                have := A1855 6 (by decide) rfl 44
                have E1857 : rE M0 M1850 o0 0 2 := E1837.same (fun k _ _ => V1856 k) (fun k h1 h2 => A1855 k (by omega) (by rcases (show k = 4 ∨ k = 5 by omega) with rfl | rfl <;> rfl))
                have := A1855 7 (by decide) rfl ((880 + ra M0 o0 6 44).toNat)
                have := A1855 10 (by decide) rfl ((880 + ra M0 o0 6 44).toNat)
                have := A1855 8 (by decide) rfl ((880 + ra M0 o0 6 44).toNat)
                have h1858 : (880 + ra M0 o0 6 44).toNat = v34.toNatClampNeg := by have := mz_nat9 (i := v34) (by have := R1834.1 15 _ _ rfl; have := R1834.1 16 _ _ rfl; have := R1834.1 19 _ _ rfl; have := E1837.f yS; omega); have := R1834.1 15 _ _ rfl; have := R1834.1 16 _ _ rfl; have := R1834.1 19 _ _ rfl; have := E1837.f yS; omega
                have : ra M1850 o0 11 ((880 + ra M0 o0 6 44).toNat) = v1848.toInt := (E1854 _).trans (if_pos h1858)
                have K1859 : rK M0 M1850 o0 ((880 + ra M0 o0 6 44).toNat) := K1838.st A1855 E1854 (by have := mz_nat9 (i := v34) (by have := R1834.1 15 _ _ rfl; have := R1834.1 16 _ _ rfl; have := R1834.1 19 _ _ rfl; have := E1837.f yS; omega); have := R1834.1 15 _ _ rfl; have := R1834.1 16 _ _ rfl; have := R1834.1 19 _ _ rfl; have := E1837.f yS; omega)
                have K1860 : nN M1850 o0 := K1839.same (sA_a A1855 (by decide)) (sF_a V1856)
                have F1861 : rE M1850 M1850 o0 0 0 := rE.rf E1857.1
                refine mv_aload_n d_TrustDeskModel_readRule_164 rfl rfl ?_
                obtain ⟨_, b1868, -⟩ := I1851.1 _ _ t1836
                refine mv_callV (kc' := 0) (ks' := 0) (As := []) (st9 := [.ref o0]) d_TrustDeskModel_readRule_165 lV_TrustDeskModel_302 b1868 rfl (tc_TrustDeskModel_cond_q5_x (d := d) (x9 := x9) (o0 := o0) t1836 R1853 E1857.1 (by have := R1853.1 15 _ _ rfl; have := R1853.1 16 _ _ rfl; have := R1853.1 19 _ _ rfl; have := E1857.f yS; omega) (by have := R1853.1 15 _ _ rfl; have := R1853.1 16 _ _ rfl; have := R1853.1 19 _ _ rfl; have := E1857.f yS; omega) I1851.start) rfl (Nat.le_of_ble_eq_true rfl) (Nat.le_of_ble_eq_true rfl) (Nat.le_of_ble_eq_true rfl) (hst := rfl) (fun b1862r M1863 n1864 b1862 => ?_)
                obtain ⟨T1865, J1866, rfl, R1869, f1870, f1871⟩ := b1862
                have I1867 := I1851.call J1866 (tm_sub (by decide)) (Or.inl rfl)
                have t1872 := J1866.up t1836
                have := (rv_c I1851 J1866 (I1851.up h_o0) (k := 24) rfl)
                have := ra_call I1851 J1866 (I1851.up h_o0) (k := 6) rfl rfl rfl 44
                have E1873 : rE M0 M1863 o0 1 2 := E1857.trans f1870 (by decide) (yR.2 5 _ _ rfl 44).1 (by decide) (by decide)
                have := f1870.w
                have := f1870.w2
                have := ra_call I1851 J1866 (I1851.up h_o0) (k := 7) rfl rfl rfl ((880 + ra M0 o0 6 44).toNat)
                have := ra_call I1851 J1866 (I1851.up h_o0) (k := 10) rfl rfl rfl ((880 + ra M0 o0 6 44).toNat)
                have := ra_call I1851 J1866 (I1851.up h_o0) (k := 8) rfl rfl rfl ((880 + ra M0 o0 6 44).toNat)
                have := ra_call I1851 J1866 (I1851.up h_o0) (k := 11) rfl rfl rfl ((880 + ra M0 o0 6 44).toNat)
                have K1874 : rK M0 M1863 o0 ((880 + ra M0 o0 6 44).toNat) := K1859.same (sA_c I1851 J1866 (I1851.up h_o0) (by decide))
                have K1875 : nN M1863 o0 := K1860.same (sA_c I1851 J1866 (I1851.up h_o0) (by decide)) (sF_c I1851 J1866 (I1851.up h_o0) (by decide))
                have F1876 : rE M1850 M1863 o0 1 0 := F1861.trans f1870 (by decide) (R1853.2 5 _ _ rfl 44).1 (by decide) (by decide)
                have q1877 := J1866.keep t1836 (by decide) (K1852 _ 13 6 _ q1840)
                have t1878 := J1866.up t1841
                have q1879 := J1866.keep t1836 (by decide) (K1852 _ 13 8 _ q1842)
                have t1880 := J1866.up t1843
                have q1881 := J1866.keep t1836 (by decide) (K1852 _ 13 11 _ q1844)
                have t1882 := J1866.up t_a1845
                have q1883 := J1866.keep t1836 (by decide) (K1852 _ 13 5 _ q1846)
                have t1884 := J1866.up t_a1847
                refine mv_goto (tgt := 251) d_TrustDeskModel_readRule_168 (by decide) ?_
                refine mv_aload_n d_TrustDeskModel_readRule_251 rfl rfl ?_
                refine mv_bipush (v := 59) d_TrustDeskModel_readRule_252 (by decide) ?_
                obtain ⟨_, b1891, -⟩ := I1867.1 _ _ t1872
                have : (59 : Int32).toInt = 59 := by decide
                refine mv_callV (kc' := 0) (ks' := 0) (As := [.int 59]) (st9 := [.int 59, .ref o0]) d_TrustDeskModel_readRule_254 lV_TrustDeskModel_291 b1891 rfl (tc_TrustDeskModel_wantSign_x (d := (d + 22)) (x9 := x9) (o0 := o0) (x1 := 59) t1872 R1869 E1873.1 (by have := R1869.1 15 _ _ rfl; have := R1869.1 16 _ _ rfl; have := R1869.1 19 _ _ rfl; have := E1873.f yS; omega) I1867.start) rfl (Nat.le_of_ble_eq_true rfl) (Nat.le_of_ble_eq_true rfl) (Nat.le_of_ble_eq_true rfl) (hst := rfl) (fun b1885r M1886 n1887 b1885 => ?_)
                obtain ⟨T1888, J1889, rfl, R1892, f1893⟩ := b1885
                have I1890 := I1867.call J1889 (tm_sub (by decide)) (Or.inl rfl)
                have t1894 := J1889.up t1872
                have := (rv_c I1867 J1889 (I1867.up h_o0) (k := 22) rfl)
                have := (rv_c I1867 J1889 (I1867.up h_o0) (k := 24) rfl)
                have := ra_call I1867 J1889 (I1867.up h_o0) (k := 5) rfl rfl rfl 44
                have := ra_call I1867 J1889 (I1867.up h_o0) (k := 6) rfl rfl rfl 44
                have E1895 : rE M0 M1886 o0 1 3 := E1873.trans f1893 (by decide) (yR.2 5 _ _ rfl 44).1 (by decide) (by decide)
                have := f1893.w
                have := f1893.w2
                have := ra_call I1867 J1889 (I1867.up h_o0) (k := 7) rfl rfl rfl ((880 + ra M0 o0 6 44).toNat)
                have := ra_call I1867 J1889 (I1867.up h_o0) (k := 10) rfl rfl rfl ((880 + ra M0 o0 6 44).toNat)
                have := ra_call I1867 J1889 (I1867.up h_o0) (k := 8) rfl rfl rfl ((880 + ra M0 o0 6 44).toNat)
                have := ra_call I1867 J1889 (I1867.up h_o0) (k := 11) rfl rfl rfl ((880 + ra M0 o0 6 44).toNat)
                have K1896 : rK M0 M1886 o0 ((880 + ra M0 o0 6 44).toNat) := K1874.same (sA_c I1867 J1889 (I1867.up h_o0) (by decide))
                have K1897 : nN M1886 o0 := K1875.same (sA_c I1867 J1889 (I1867.up h_o0) (by decide)) (sF_c I1867 J1889 (I1867.up h_o0) (by decide))
                have F1898 : rE M1850 M1886 o0 1 1 := F1876.trans f1893 (by decide) (R1853.2 5 _ _ rfl 44).1 (by decide) (by decide)
                have q1899 := J1889.keep t1872 (by decide) q1877
                have t1900 := J1889.up t1878
                have q1901 := J1889.keep t1872 (by decide) q1879
                have t1902 := J1889.up t1880
                have q1903 := J1889.keep t1872 (by decide) q1881
                have t1904 := J1889.up t1882
                have q1905 := J1889.keep t1872 (by decide) q1883
                have t1906 := J1889.up t1884
                refine mv_aload_n d_TrustDeskModel_readRule_257 rfl rfl ?_
                obtain ⟨a1908, q1907, t_a1908⟩ := tm_atR I1890 t1894 (k := 12) rfl
                refine tr_getK q1907 d_TrustDeskModel_readRule_258 f_TrustDeskModel_41_13 ?_
                refine mv_iload_n d_TrustDeskModel_readRule_261 rfl rfl ?_
                refine mv_aload_n d_TrustDeskModel_readRule_262 rfl rfl ?_
                refine tr_getK (k := 5) q1905 d_TrustDeskModel_readRule_263 f_TrustDeskModel_20_13 ?_
                refine mv_bipush (v := 44) d_TrustDeskModel_readRule_266 (by decide) ?_
                refine tr_ialdR (o := o0) (k := 5) I1890 q1905 t1906 (by decide) d_TrustDeskModel_readRule_268 (by unfold vp_in; decide) (fun v1909 e1910 => ?_)
                have := R1892.a (k := 5) rfl (44 : Int32).toNatClampNeg
                have : v1909.toInt = ra M1886 o0 5 44 := e1910
                refine tr_iastR (k := 12) I1890 R1892 (I1890.up h_o0) q1907 t_a1908 (by decide) (by decide) (fun lo hi h => by cases h; have := R1892.1 15 _ _ rfl; have := R1892.1 16 _ _ rfl; have := R1892.1 19 _ _ rfl; have := E1895.f yS; exact ⟨by show (0 : Int) ≤ v1909.toInt; omega, by show v1909.toInt ≤ (400 : Int); omega⟩) (Or.inl (by decide)) d_TrustDeskModel_readRule_269 (vp_in_iff.mpr (by have := R1892.1 15 _ _ rfl; have := R1892.1 16 _ _ rfl; have := R1892.1 19 _ _ rfl; have := E1895.f yS; omega)) (fun M1911 I1912 K1913 R1914 E1915 A1916 V1917 => ?_)
                have := V1917 15
                have := V1917 16
                have := V1917 17
                have := V1917 19
                have := V1917 22
                have := V1917 24
                have := A1916 5 (by decide) rfl 44
                have := A1916 6 (by decide) rfl 44
                have E1918 : rE M0 M1911 o0 1 3 := E1895.same (fun k _ _ => V1917 k) (fun k h1 h2 => A1916 k (by omega) (by rcases (show k = 4 ∨ k = 5 by omega) with rfl | rfl <;> rfl))
                have := A1916 7 (by decide) rfl ((880 + ra M0 o0 6 44).toNat)
                have := A1916 10 (by decide) rfl ((880 + ra M0 o0 6 44).toNat)
                have := A1916 8 (by decide) rfl ((880 + ra M0 o0 6 44).toNat)
                have := A1916 11 (by decide) rfl ((880 + ra M0 o0 6 44).toNat)
                have h1919 : (880 + ra M0 o0 6 44).toNat = v34.toNatClampNeg := by have := mz_nat9 (i := v34) (by have := R1892.1 15 _ _ rfl; have := R1892.1 16 _ _ rfl; have := R1892.1 19 _ _ rfl; have := E1895.f yS; omega); have := R1892.1 15 _ _ rfl; have := R1892.1 16 _ _ rfl; have := R1892.1 19 _ _ rfl; have := E1895.f yS; omega
                have : ra M1911 o0 12 ((880 + ra M0 o0 6 44).toNat) = v1909.toInt := (E1915 _).trans (if_pos h1919)
                have K1920 : rK M0 M1911 o0 ((880 + ra M0 o0 6 44).toNat) := K1896.st A1916 E1915 (by have := mz_nat9 (i := v34) (by have := R1892.1 15 _ _ rfl; have := R1892.1 16 _ _ rfl; have := R1892.1 19 _ _ rfl; have := E1895.f yS; omega); have := R1892.1 15 _ _ rfl; have := R1892.1 16 _ _ rfl; have := R1892.1 19 _ _ rfl; have := E1895.f yS; omega)
                have K1921 : nN M1911 o0 := K1897.same (sA_a A1916 (by decide)) (sF_a V1917)
                have F1922 : rE M1850 M1911 o0 1 1 := F1898.same (fun k _ _ => V1917 k) (fun k h1 h2 => A1916 k (by omega) (by rcases (show k = 4 ∨ k = 5 by omega) with rfl | rfl <;> rfl))
                exact mv_vret d_TrustDeskModel_readRule_270 rfl ⟨_, I1912, rfl, R1914, (rW.of E1918.1 (fun h9 => absurd h9 (by have := R1914.1 15 _ _ rfl; have := R1914.1 16 _ _ rfl; have := R1914.1 19 _ _ rfl; have := E1918.f yS; omega)) (fun h9 => absurd h9 (by have := R1914.1 15 _ _ rfl; have := R1914.1 16 _ _ rfl; have := R1914.1 19 _ _ rfl; have := E1918.f yS; omega))), (rO.of E1918 K1920 (by have := yR.2 6 _ _ rfl 44; omega)), (by have := R1914.1 15 _ _ rfl; have := R1914.1 16 _ _ rfl; have := R1914.1 19 _ _ rfl; have := E1918.f yS; omega), (by have := R1914.1 15 _ _ rfl; have := R1914.1 16 _ _ rfl; have := R1914.1 19 _ _ rfl; have := E1918.f yS; omega)⟩
              · exfalso
                have := R1813.1 15 _ _ rfl; have := R1813.1 16 _ _ rfl; have := R1813.1 19 _ _ rfl; have := E1816.f yS; omega
    · refine mv_aload_n d_TrustDeskModel_readRule_30 rfl rfl ?_
      refine mv_iconst (v := 4) d_TrustDeskModel_readRule_31 (by decide) ?_
      obtain ⟨_, b1929, -⟩ := I8.1 _ _ t13
      have : (4 : Int32).toInt = 4 := by decide
      refine mv_callV (kc' := 0) (ks' := 0) (As := [.int 4]) (st9 := [.int 4, .ref o0]) d_TrustDeskModel_readRule_32 lV_TrustDeskModel_240 b1929 rfl (tc_TrustDeskModel_fails_x (d := (d + 24)) (x9 := x9) (o0 := o0) (x1 := 4) t13 R11 (by decide) I8.start) rfl (Nat.le_of_ble_eq_true rfl) (Nat.le_of_ble_eq_true rfl) (Nat.le_of_ble_eq_true rfl) (hst := rfl) (fun b1923r M1924 n1925 b1923 => ?_)
      obtain ⟨T1926, J1927, rfl, R1930, f1931⟩ := b1923
      have I1928 := I8.call J1927 (tm_sub (by decide)) (Or.inl rfl)
      have t1932 := J1927.up t13
      have := (rv_c I8 J1927 (I8.up h_o0) (k := 15) rfl)
      have := (rv_c I8 J1927 (I8.up h_o0) (k := 16) rfl)
      have := (rv_c I8 J1927 (I8.up h_o0) (k := 17) rfl)
      have := (rv_c I8 J1927 (I8.up h_o0) (k := 22) rfl)
      have := (rv_c I8 J1927 (I8.up h_o0) (k := 24) rfl)
      have := ra_call I8 J1927 (I8.up h_o0) (k := 5) rfl rfl rfl 44
      have := ra_call I8 J1927 (I8.up h_o0) (k := 6) rfl rfl rfl 44
      have E1933 : rE M0 M1924 o0 0 0 := E14.fails (rE_hv I8 J1927 (I8.up h_o0) 15 18 (by decide)) (rE_ha I8 J1927 (I8.up h_o0) (by decide)) f1931 0 0
      have K1934 : rK M0 M1924 o0 ((880 + ra M0 o0 6 44).toNat) := K15.same (sA_c I8 J1927 (I8.up h_o0) (by decide))
      have K1935 : nN M1924 o0 := K16.same (sA_c I8 J1927 (I8.up h_o0) (by decide)) (sF_c I8 J1927 (I8.up h_o0) (by decide))
      have q1936 := J1927.keep t13 (by decide) q18
      have t1937 := J1927.up t_a19
      refine mv_aload_n d_TrustDeskModel_readRule_35 rfl rfl ?_
      obtain ⟨_, b1938, -⟩ := I1928.1 _ _ t1932
      refine mv_callV (kc1 := 0) (ks1 := 0) (kc' := 0) (ks' := 0) (As := []) (st9 := [.ref o0]) d_TrustDeskModel_readRule_36 lV_TrustDeskModel_230 b1938 rfl (mj_enter (by decide) (Nat.le_of_ble_eq_true rfl) ?_) rfl (Nat.le_of_ble_eq_true rfl) (Nat.le_of_ble_eq_true rfl) (Nat.le_of_ble_eq_true rfl) (hst := rfl) (fun _ _ _ h => h)
      refine mv_aload_n d_TrustDeskModel_isWell_0 rfl rfl ?_
      obtain ⟨v1940, q1939⟩ := tm_atI I1928 t1932 (k := 19) rfl
      refine tr_getK q1939 d_TrustDeskModel_isWell_1 f_TrustDeskModel_224_13 ?_
      have := R1930.f (k := 19) q1939 rfl
      have := tm_rv q1939
      refine mv_if_neZ (tgt := 11) (a := v1940.toInt) d_TrustDeskModel_isWell_4 (by decide) rfl (fun b1941 => ?_) (fun b1941 => ?_)
      · refine mv_iconst (v := 0) d_TrustDeskModel_isWell_11 (by decide) ?_
        refine mv_iret d_TrustDeskModel_isWell_12 rfl (by decide) ?_
        refine mv_if_ne_f (tgt := 43) d_TrustDeskModel_readRule_39 (by decide) (by decide) ?_
        exact mv_vret d_TrustDeskModel_readRule_42 rfl ⟨_, I1928, rfl, R1930, (rW.of E1933.1 (fun h9 => absurd h9 (by have := R1930.1 15 _ _ rfl; have := R1930.1 16 _ _ rfl; have := R1930.1 19 _ _ rfl; have := E1933.f yS; omega)) (fun h9 => absurd h9 (by have := R1930.1 15 _ _ rfl; have := R1930.1 16 _ _ rfl; have := R1930.1 19 _ _ rfl; have := E1933.f yS; omega))), (rO.of E1933 K1934 (by have := yR.2 6 _ _ rfl 44; omega)), (by have := R1930.1 15 _ _ rfl; have := R1930.1 16 _ _ rfl; have := R1930.1 19 _ _ rfl; have := E1933.f yS; omega), (by have := R1930.1 15 _ _ rfl; have := R1930.1 16 _ _ rfl; have := R1930.1 19 _ _ rfl; have := E1933.f yS; omega)⟩
      · exfalso
        have := R1930.1 15 _ _ rfl; have := R1930.1 16 _ _ rfl; have := R1930.1 19 _ _ rfl; have := E1933.f yS; omega
  · refine mv_aload_n d_TrustDeskModel_readRule_10 rfl rfl ?_
    refine mv_iconst (v := 1) d_TrustDeskModel_readRule_11 (by decide) ?_
    obtain ⟨_, b1948, -⟩ := I8.1 _ _ t13
    have : (1 : Int32).toInt = 1 := by decide
    refine mv_callV (kc' := 0) (ks' := 0) (As := [.int 1]) (st9 := [.int 1, .ref o0]) d_TrustDeskModel_readRule_12 lV_TrustDeskModel_240 b1948 rfl (tc_TrustDeskModel_fails_x (d := (d + 24)) (x9 := x9) (o0 := o0) (x1 := 1) t13 R11 (by decide) I8.start) rfl (Nat.le_of_ble_eq_true rfl) (Nat.le_of_ble_eq_true rfl) (Nat.le_of_ble_eq_true rfl) (hst := rfl) (fun b1942r M1943 n1944 b1942 => ?_)
    obtain ⟨T1945, J1946, rfl, R1949, f1950⟩ := b1942
    have I1947 := I8.call J1946 (tm_sub (by decide)) (Or.inl rfl)
    have t1951 := J1946.up t13
    have := (rv_c I8 J1946 (I8.up h_o0) (k := 15) rfl)
    have := (rv_c I8 J1946 (I8.up h_o0) (k := 16) rfl)
    have := (rv_c I8 J1946 (I8.up h_o0) (k := 17) rfl)
    have := (rv_c I8 J1946 (I8.up h_o0) (k := 22) rfl)
    have := (rv_c I8 J1946 (I8.up h_o0) (k := 24) rfl)
    have := ra_call I8 J1946 (I8.up h_o0) (k := 5) rfl rfl rfl 44
    have := ra_call I8 J1946 (I8.up h_o0) (k := 6) rfl rfl rfl 44
    have E1952 : rE M0 M1943 o0 0 0 := E14.fails (rE_hv I8 J1946 (I8.up h_o0) 15 18 (by decide)) (rE_ha I8 J1946 (I8.up h_o0) (by decide)) f1950 0 0
    have K1953 : rK M0 M1943 o0 ((880 + ra M0 o0 6 44).toNat) := K15.same (sA_c I8 J1946 (I8.up h_o0) (by decide))
    have K1954 : nN M1943 o0 := K16.same (sA_c I8 J1946 (I8.up h_o0) (by decide)) (sF_c I8 J1946 (I8.up h_o0) (by decide))
    refine mv_goto (tgt := 35) d_TrustDeskModel_readRule_15 (by decide) ?_
    refine mv_aload_n d_TrustDeskModel_readRule_35 rfl rfl ?_
    obtain ⟨_, b1955, -⟩ := I1947.1 _ _ t1951
    refine mv_callV (kc1 := 0) (ks1 := 0) (kc' := 0) (ks' := 0) (As := []) (st9 := [.ref o0]) d_TrustDeskModel_readRule_36 lV_TrustDeskModel_230 b1955 rfl (mj_enter (by decide) (Nat.le_of_ble_eq_true rfl) ?_) rfl (Nat.le_of_ble_eq_true rfl) (Nat.le_of_ble_eq_true rfl) (Nat.le_of_ble_eq_true rfl) (hst := rfl) (fun _ _ _ h => h)
    refine mv_aload_n d_TrustDeskModel_isWell_0 rfl rfl ?_
    obtain ⟨v1957, q1956⟩ := tm_atI I1947 t1951 (k := 19) rfl
    refine tr_getK q1956 d_TrustDeskModel_isWell_1 f_TrustDeskModel_224_13 ?_
    have := R1949.f (k := 19) q1956 rfl
    have := tm_rv q1956
    refine mv_if_neZ (tgt := 11) (a := v1957.toInt) d_TrustDeskModel_isWell_4 (by decide) rfl (fun b1958 => ?_) (fun b1958 => ?_)
    · refine mv_iconst (v := 0) d_TrustDeskModel_isWell_11 (by decide) ?_
      refine mv_iret d_TrustDeskModel_isWell_12 rfl (by decide) ?_
      refine mv_if_ne_f (tgt := 43) d_TrustDeskModel_readRule_39 (by decide) (by decide) ?_
      exact mv_vret d_TrustDeskModel_readRule_42 rfl ⟨_, I1947, rfl, R1949, (rW.of E1952.1 (fun h9 => absurd h9 (by have := R1949.1 15 _ _ rfl; have := R1949.1 16 _ _ rfl; have := R1949.1 19 _ _ rfl; have := E1952.f yS; omega)) (fun h9 => absurd h9 (by have := R1949.1 15 _ _ rfl; have := R1949.1 16 _ _ rfl; have := R1949.1 19 _ _ rfl; have := E1952.f yS; omega))), (rO.of E1952 K1953 (by have := yR.2 6 _ _ rfl 44; omega)), (by have := R1949.1 15 _ _ rfl; have := R1949.1 16 _ _ rfl; have := R1949.1 19 _ _ rfl; have := E1952.f yS; omega), (by have := R1949.1 15 _ _ rfl; have := R1949.1 16 _ _ rfl; have := R1949.1 19 _ _ rfl; have := E1952.f yS; omega)⟩
    · exfalso
      have := R1949.1 15 _ _ rfl; have := R1949.1 16 _ _ rfl; have := R1949.1 19 _ _ rfl; have := E1952.f yS; omega
