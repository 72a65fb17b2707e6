abbrev kY_TrustDeskModel_readRule : mj_Y := (⟨"TrustDeskModel", "readRule", "()V"⟩, prog_14_method_40_code, 4, (Option.none : Option Jvm.ClassFile.FieldType))
theorem d_TrustDeskModel_readRule_0 : decode kY_TrustDeskModel_readRule.2.1 0 = .ok (.aload_n 0, 1) := by decide +kernel
theorem d_TrustDeskModel_readRule_1 : decode kY_TrustDeskModel_readRule.2.1 1 = .ok (.invokevirtual 365, 3) := by decide +kernel
abbrev kY_TrustDeskModel_ruleWord : mj_Y := (⟨"TrustDeskModel", "ruleWord", "()I"⟩, prog_14_method_39_code, 1, (Option.some Jvm.ClassFile.FieldType.int))
theorem d_TrustDeskModel_ruleWord_0 : decode kY_TrustDeskModel_ruleWord.2.1 0 = .ok (.aload_n 0, 1) := by decide +kernel
theorem d_TrustDeskModel_ruleWord_1 : decode kY_TrustDeskModel_ruleWord.2.1 1 = .ok (.ldc_w 351, 3) := by decide +kernel
theorem d_TrustDeskModel_ruleWord_4 : decode kY_TrustDeskModel_ruleWord.2.1 4 = .ok (.invokevirtual 244, 3) := by decide +kernel
def w_TrustDeskModel_isWord_s1_14_x : List Nat := []
theorem tc_TrustDeskModel_isWord_s1_14_x {g : mj_G} {l : Launch} {d : Nat} {T0 : tm_H} {M0 : mj_M} {n0 x9 : Nat} {o0 : Nat} (h_o0 : T0 o0 = some (0, 13, 0)) (yR : rI M0 o0) (I0 : tm_I tm_FT (tm_in w_TrustDeskModel_isWord_s1_14_x) x9 T0 M0 n0 T0 M0 n0) : mj_Met g l kY_TrustDeskModel_isWord (d + 4) [.ref o0, .ref 14] M0 n0 0 0 (tm_Q tm_FT (tm_in w_TrustDeskModel_isWord_s1_14_x) x9 T0 M0 n0 (fun r _ M => ∃ v : Int32, r = some (.int v) ∧ 0 ≤ v.toInt ∧ v.toInt ≤ 1 ∧ rI M o0 ∧ (v.toInt = 1 → rv M0 o0 17 = 3))) := by
  refine mj_enter (by decide) (Nat.le_of_ble_eq_true rfl) ?_
  refine mv_aload_n d_TrustDeskModel_isWord_0 rfl rfl ?_
  obtain ⟨v2, q1⟩ := tm_atI I0 h_o0 (k := 17) rfl
  refine tr_getK q1 d_TrustDeskModel_isWord_1 f_TrustDeskModel_198_13 ?_
  have := tm_rv q1
  refine mv_iconst (v := 3) d_TrustDeskModel_isWord_4 (by decide) ?_
  have := mz_hi v2
  refine mv_icmp_neZ (tgt := 24) (a := v2.toInt) (b := 3) d_TrustDeskModel_isWord_5 (by decide) rfl (by decide) (fun b3 => ?_) (fun b3 => ?_)
  · refine mv_iconst (v := 0) d_TrustDeskModel_isWord_24 (by decide) ?_
    exact mv_iret d_TrustDeskModel_isWord_25 rfl (by decide) ⟨_, I0, _, rfl, by decide, by decide, yR, (fun h => absurd h (by decide))⟩
  · refine mv_aload_n d_TrustDeskModel_isWord_8 rfl rfl ?_
    obtain ⟨v5, q4⟩ := tm_atI I0 h_o0 (k := 15) rfl
    refine tr_getK q4 d_TrustDeskModel_isWord_9 f_TrustDeskModel_192_13 ?_
    have := yR.f (k := 15) q4 rfl
    have := tm_rv q4
    refine mv_aload_n d_TrustDeskModel_isWord_12 rfl rfl ?_
    obtain ⟨v7, q6⟩ := tm_atI I0 h_o0 (k := 16) rfl
    refine tr_getK q6 d_TrustDeskModel_isWord_13 f_TrustDeskModel_195_13 ?_
    have := yR.f (k := 16) q6 rfl
    have := tm_rv q6
    refine mv_isub d_TrustDeskModel_isWord_16 ?_
    refine mv_aload_n d_TrustDeskModel_isWord_17 rfl rfl ?_
    refine mv_slenK (i := 4) (v := 4) d_TrustDeskModel_isWord_18 lV_TrustDeskModel_214 (by decide) rfl (by decide) (Nat.le_of_ble_eq_true rfl) ?_
    have b8 : (v5 - v7 : Int32).toInt = (v5.toInt - v7.toInt) := mz_sub2 rfl rfl (by have := yR.1 15 _ _ rfl; have := yR.1 16 _ _ rfl; have := yR.1 19 _ _ rfl; omega) (by have := yR.1 15 _ _ rfl; have := yR.1 16 _ _ rfl; have := yR.1 19 _ _ rfl; omega)
    have := mz_hi (v5 - v7)
    refine mv_icmp_eqZ (tgt := 26) (a := (v5 - v7).toInt) (b := 4) d_TrustDeskModel_isWord_21 (by decide) rfl (by decide) (fun b9 => ?_) (fun b9 => ?_)
    · refine mv_iconst (v := 0) d_TrustDeskModel_isWord_26 (by decide) ?_
      refine mv_istore_n (lv' := [(2, .int 0), (0, .ref o0), (1, .ref 14)]) d_TrustDeskModel_isWord_27 rfl (by decide) rfl ?_
      have L28_10 : ∀ (k : Nat) (i2_10 : Int32) (T_10 : tm_H) (M_10 : mj_M) (n_10 : Nat), tm_I tm_FT (tm_in w_TrustDeskModel_isWord_s1_14_x) x9 T0 M0 n0 T_10 M_10 n_10 → T_10 o0 = some (0, 13, 0) → 0 ≤ i2_10.toInt → rv M_10 o0 15 = rv M0 o0 15 → rv M_10 o0 16 = rv M0 o0 16 → i2_10.toInt ≤ 2147483646 → (rI M_10 o0) → 2147483647 - i2_10.toInt < (k : Int) → mj_V g l kY_TrustDeskModel_isWord (d + 4) 28 [(2, .int i2_10), (0, .ref o0), (1, .ref 14)] [] M_10 n_10 0 0 (tm_Q tm_FT (tm_in w_TrustDeskModel_isWord_s1_14_x) x9 T0 M0 n0 (fun r _ M => ∃ v : Int32, r = some (.int v) ∧ 0 ≤ v.toInt ∧ v.toInt ≤ 1 ∧ rI M o0 ∧ (v.toInt = 1 → rv M0 o0 17 = 3))) := by
        intro k10
        induction k10 with
        | zero =>
          intro i2_10 T_10 M_10 n_10 I_10 h_q0_10 iv0_10 iv1_10 iv2_10 iv3_10 kKR_10 hk10
          have := mz_hi i2_10
          have := kKR_10.1 15 _ _ rfl
          have := kKR_10.1 16 _ _ rfl
          have := kKR_10.1 19 _ _ rfl
          omega
        | succ k10 ih10 =>
          intro i2_10 T_10 M_10 n_10 I_10 h_q0_10 iv0_10 iv1_10 iv2_10 iv3_10 kKR_10 hk10
          refine mv_iload_n d_TrustDeskModel_isWord_28 rfl rfl ?_
          refine mv_aload_n d_TrustDeskModel_isWord_29 rfl rfl ?_
          refine mv_slenK (i := 4) (v := 4) d_TrustDeskModel_isWord_30 lV_TrustDeskModel_214 (by decide) rfl (by decide) (Nat.le_of_ble_eq_true rfl) ?_
          have := mz_hi i2_10
          refine mv_icmp_geZ (tgt := 63) (a := i2_10.toInt) (b := 4) d_TrustDeskModel_isWord_33 (by decide) rfl (by decide) (fun b11 => ?_) (fun b11 => ?_)
          · refine mv_iconst (v := 1) d_TrustDeskModel_isWord_63 (by decide) ?_
            exact mv_iret d_TrustDeskModel_isWord_64 rfl (by decide) ⟨_, I_10, _, rfl, by decide, by decide, kKR_10, (fun _ => by omega)⟩
          · refine mv_aload_n d_TrustDeskModel_isWord_36 rfl rfl ?_
            obtain ⟨a13, q12, t_a13⟩ := tm_atR I_10 h_q0_10 (k := 13) rfl
            refine tr_getK q12 d_TrustDeskModel_isWord_37 f_TrustDeskModel_44_13 ?_
            refine mv_aload_n d_TrustDeskModel_isWord_40 rfl rfl ?_
            obtain ⟨v15, q14⟩ := tm_atI I_10 h_q0_10 (k := 16) rfl
            refine tr_getK q14 d_TrustDeskModel_isWord_41 f_TrustDeskModel_195_13 ?_
            have := kKR_10.f (k := 16) q14 rfl
            have := tm_rv q14
            refine mv_iload_n d_TrustDeskModel_isWord_44 rfl rfl ?_
            refine mv_iadd d_TrustDeskModel_isWord_45 ?_
            have b16 : (v15 + i2_10 : Int32).toInt = (v15.toInt + i2_10.toInt) := mz_add2 rfl rfl (by have := kKR_10.1 15 _ _ rfl; have := kKR_10.1 16 _ _ rfl; have := kKR_10.1 19 _ _ rfl; omega) (by have := kKR_10.1 15 _ _ rfl; have := kKR_10.1 16 _ _ rfl; have := kKR_10.1 19 _ _ rfl; omega)
            refine tr_baldR (o := o0) (k := 13) I_10 q12 t_a13 (by decide) d_TrustDeskModel_isWord_46 (vp_in_iff.mpr (by have := kKR_10.1 15 _ _ rfl; have := kKR_10.1 16 _ _ rfl; have := kKR_10.1 19 _ _ rfl; omega)) (fun v17 e18 => ?_)
            have := kKR_10.a (k := 13) rfl ((v15 + i2_10) : Int32).toNatClampNeg
            refine mv_aload_n d_TrustDeskModel_isWord_47 rfl rfl ?_
            refine mv_iload_n d_TrustDeskModel_isWord_48 rfl rfl ?_
            refine mv_schN (i := 4) (N := 4) d_TrustDeskModel_isWord_49 lV_TrustDeskModel_220 (by decide) rfl rfl (by omega) (by omega) (Nat.le_of_ble_eq_true rfl) (fun v19 => ?_)
            have := mz_hi v17
            have := mz_hi v19
            refine mv_icmp_eqZ (tgt := 57) (a := v17.toInt) (b := v19.toInt) d_TrustDeskModel_isWord_52 (by decide) rfl rfl (fun b20 => ?_) (fun b20 => ?_)
            · refine mv_iinc (v := (i2_10 + 1)) (lv' := [(2, .int (i2_10 + 1)), (0, .ref o0), (1, .ref 14)]) d_TrustDeskModel_isWord_57 rfl rfl (by decide) rfl ?_
              refine mv_goto (tgt := 28) d_TrustDeskModel_isWord_60 (by decide) ?_
              have b21 : (i2_10 + 1).toInt = i2_10.toInt + 1 := mz_addn 1 1 (by decide) (by have := mz_lo i2_10; omega) (by have := mz_hi i2_10; omega)
              exact (ih10 (i2_10 + 1) T_10 M_10 n_10 I_10 h_q0_10 (by have := kKR_10.1 15 _ _ rfl; have := kKR_10.1 16 _ _ rfl; have := kKR_10.1 19 _ _ rfl; first | omega | decide | exact fun h9 => absurd (by decide) h9) (by have := kKR_10.1 15 _ _ rfl; have := kKR_10.1 16 _ _ rfl; have := kKR_10.1 19 _ _ rfl; first | omega | decide | exact fun h9 => absurd (by decide) h9) (by have := kKR_10.1 15 _ _ rfl; have := kKR_10.1 16 _ _ rfl; have := kKR_10.1 19 _ _ rfl; first | omega | decide | exact fun h9 => absurd (by decide) h9) (by have := kKR_10.1 15 _ _ rfl; have := kKR_10.1 16 _ _ rfl; have := kKR_10.1 19 _ _ rfl; first | omega | decide | exact fun h9 => absurd (by decide) h9) kKR_10 (by have := kKR_10.1 15 _ _ rfl; have := kKR_10.1 16 _ _ rfl; have := kKR_10.1 19 _ _ rfl; omega))
            · refine mv_iconst (v := 0) d_TrustDeskModel_isWord_55 (by decide) ?_
              exact mv_iret d_TrustDeskModel_isWord_56 rfl (by decide) ⟨_, I_10, _, rfl, by decide, by decide, kKR_10, (fun h => absurd h (by decide))⟩
      exact mv_less (Nat.zero_le _) (Nat.zero_le _) (L28_10 4294967296 0 T0 M0 n0 I0 h_o0 (by have := yR.1 15 _ _ rfl; have := yR.1 16 _ _ rfl; have := yR.1 19 _ _ rfl; first | omega | decide | exact fun h9 => absurd (by decide) h9) (by have := yR.1 15 _ _ rfl; have := yR.1 16 _ _ rfl; have := yR.1 19 _ _ rfl; first | omega | decide | exact fun h9 => absurd (by decide) h9) (by have := yR.1 15 _ _ rfl; have := yR.1 16 _ _ rfl; have := yR.1 19 _ _ rfl; first | omega | decide | exact fun h9 => absurd (by decide) h9) (by have := yR.1 15 _ _ rfl; have := yR.1 16 _ _ rfl; have := yR.1 19 _ _ rfl; first | omega | decide | exact fun h9 => absurd (by decide) h9) yR (by show (2147483647 - (0 : Int) : Int) < _; decide))
    · refine mv_iconst (v := 0) d_TrustDeskModel_isWord_24 (by decide) ?_
      exact mv_iret d_TrustDeskModel_isWord_25 rfl (by decide) ⟨_, I0, _, rfl, by decide, by decide, yR, (fun h => absurd h (by decide))⟩
theorem d_TrustDeskModel_ruleWord_7 : decode kY_TrustDeskModel_ruleWord.2.1 7 = .ok (.ifCond .eq 7, 3) := by decide +kernel
theorem d_TrustDeskModel_ruleWord_14 : decode kY_TrustDeskModel_ruleWord.2.1 14 = .ok (.aload_n 0, 1) := by decide +kernel
theorem d_TrustDeskModel_ruleWord_15 : decode kY_TrustDeskModel_ruleWord.2.1 15 = .ok (.ldc_w 353, 3) := by decide +kernel
theorem d_TrustDeskModel_ruleWord_18 : decode kY_TrustDeskModel_ruleWord.2.1 18 = .ok (.invokevirtual 244, 3) := by decide +kernel
def w_TrustDeskModel_isWord_s1_15_x : List Nat := []
theorem tc_TrustDeskModel_isWord_s1_15_x {g : mj_G} {l : Launch} {d : Nat} {T0 : tm_H} {M0 : mj_M} {n0 x9 : Nat} {o0 : Nat} (h_o0 : T0 o0 = some (0, 13, 0)) (yR : rI M0 o0) (I0 : tm_I tm_FT (tm_in w_TrustDeskModel_isWord_s1_15_x) x9 T0 M0 n0 T0 M0 n0) : mj_Met g l kY_TrustDeskModel_isWord (d + 4) [.ref o0, .ref 15] M0 n0 0 0 (tm_Q tm_FT (tm_in w_TrustDeskModel_isWord_s1_15_x) x9 T0 M0 n0 (fun r _ M => ∃ v : Int32, r = some (.int v) ∧ 0 ≤ v.toInt ∧ v.toInt ≤ 1 ∧ rI M o0 ∧ (v.toInt = 1 → rv M0 o0 17 = 3))) := by
  refine mj_enter (by decide) (Nat.le_of_ble_eq_true rfl) ?_
  refine mv_aload_n d_TrustDeskModel_isWord_0 rfl rfl ?_
  obtain ⟨v2, q1⟩ := tm_atI I0 h_o0 (k := 17) rfl
  refine tr_getK q1 d_TrustDeskModel_isWord_1 f_TrustDeskModel_198_13 ?_
  have := tm_rv q1
  refine mv_iconst (v := 3) d_TrustDeskModel_isWord_4 (by decide) ?_
  have := mz_hi v2
  refine mv_icmp_neZ (tgt := 24) (a := v2.toInt) (b := 3) d_TrustDeskModel_isWord_5 (by decide) rfl (by decide) (fun b3 => ?_) (fun b3 => ?_)
  · refine mv_iconst (v := 0) d_TrustDeskModel_isWord_24 (by decide) ?_
    exact mv_iret d_TrustDeskModel_isWord_25 rfl (by decide) ⟨_, I0, _, rfl, by decide, by decide, yR, (fun h => absurd h (by decide))⟩
  · refine mv_aload_n d_TrustDeskModel_isWord_8 rfl rfl ?_
    obtain ⟨v5, q4⟩ := tm_atI I0 h_o0 (k := 15) rfl
    refine tr_getK q4 d_TrustDeskModel_isWord_9 f_TrustDeskModel_192_13 ?_
    have := yR.f (k := 15) q4 rfl
    have := tm_rv q4
    refine mv_aload_n d_TrustDeskModel_isWord_12 rfl rfl ?_
    obtain ⟨v7, q6⟩ := tm_atI I0 h_o0 (k := 16) rfl
    refine tr_getK q6 d_TrustDeskModel_isWord_13 f_TrustDeskModel_195_13 ?_
    have := yR.f (k := 16) q6 rfl
    have := tm_rv q6
    refine mv_isub d_TrustDeskModel_isWord_16 ?_
    refine mv_aload_n d_TrustDeskModel_isWord_17 rfl rfl ?_
    refine mv_slenK (i := 5) (v := 4) d_TrustDeskModel_isWord_18 lV_TrustDeskModel_214 (by decide) rfl (by decide) (Nat.le_of_ble_eq_true rfl) ?_
    have b8 : (v5 - v7 : Int32).toInt = (v5.toInt - v7.toInt) := mz_sub2 rfl rfl (by have := yR.1 15 _ _ rfl; have := yR.1 16 _ _ rfl; have := yR.1 19 _ _ rfl; omega) (by have := yR.1 15 _ _ rfl; have := yR.1 16 _ _ rfl; have := yR.1 19 _ _ rfl; omega)
    have := mz_hi (v5 - v7)
    refine mv_icmp_eqZ (tgt := 26) (a := (v5 - v7).toInt) (b := 4) d_TrustDeskModel_isWord_21 (by decide) rfl (by decide) (fun b9 => ?_) (fun b9 => ?_)
    · refine mv_iconst (v := 0) d_TrustDeskModel_isWord_26 (by decide) ?_
      refine mv_istore_n (lv' := [(2, .int 0), (0, .ref o0), (1, .ref 15)]) d_TrustDeskModel_isWord_27 rfl (by decide) rfl ?_
      have L28_10 : ∀ (k : Nat) (i2_10 : Int32) (T_10 : tm_H) (M_10 : mj_M) (n_10 : Nat), tm_I tm_FT (tm_in w_TrustDeskModel_isWord_s1_15_x) x9 T0 M0 n0 T_10 M_10 n_10 → T_10 o0 = some (0, 13, 0) → 0 ≤ i2_10.toInt → rv M_10 o0 15 = rv M0 o0 15 → rv M_10 o0 16 = rv M0 o0 16 → i2_10.toInt ≤ 2147483646 → (rI M_10 o0) → 2147483647 - i2_10.toInt < (k : Int) → mj_V g l kY_TrustDeskModel_isWord (d + 4) 28 [(2, .int i2_10), (0, .ref o0), (1, .ref 15)] [] M_10 n_10 0 0 (tm_Q tm_FT (tm_in w_TrustDeskModel_isWord_s1_15_x) x9 T0 M0 n0 (fun r _ M => ∃ v : Int32, r = some (.int v) ∧ 0 ≤ v.toInt ∧ v.toInt ≤ 1 ∧ rI M o0 ∧ (v.toInt = 1 → rv M0 o0 17 = 3))) := by
        intro k10
        induction k10 with
        | zero =>
          intro i2_10 T_10 M_10 n_10 I_10 h_q0_10 iv0_10 iv1_10 iv2_10 iv3_10 kKR_10 hk10
          have := mz_hi i2_10
          have := kKR_10.1 15 _ _ rfl
          have := kKR_10.1 16 _ _ rfl
          have := kKR_10.1 19 _ _ rfl
          omega
        | succ k10 ih10 =>
          intro i2_10 T_10 M_10 n_10 I_10 h_q0_10 iv0_10 iv1_10 iv2_10 iv3_10 kKR_10 hk10
          refine mv_iload_n d_TrustDeskModel_isWord_28 rfl rfl ?_
          refine mv_aload_n d_TrustDeskModel_isWord_29 rfl rfl ?_
          refine mv_slenK (i := 5) (v := 4) d_TrustDeskModel_isWord_30 lV_TrustDeskModel_214 (by decide) rfl (by decide) (Nat.le_of_ble_eq_true rfl) ?_
          have := mz_hi i2_10
          refine mv_icmp_geZ (tgt := 63) (a := i2_10.toInt) (b := 4) d_TrustDeskModel_isWord_33 (by decide) rfl (by decide) (fun b11 => ?_) (fun b11 => ?_)
          · refine mv_iconst (v := 1) d_TrustDeskModel_isWord_63 (by decide) ?_
            exact mv_iret d_TrustDeskModel_isWord_64 rfl (by decide) ⟨_, I_10, _, rfl, by decide, by decide, kKR_10, (fun _ => by omega)⟩
          · refine mv_aload_n d_TrustDeskModel_isWord_36 rfl rfl ?_
            obtain ⟨a13, q12, t_a13⟩ := tm_atR I_10 h_q0_10 (k := 13) rfl
            refine tr_getK q12 d_TrustDeskModel_isWord_37 f_TrustDeskModel_44_13 ?_
            refine mv_aload_n d_TrustDeskModel_isWord_40 rfl rfl ?_
            obtain ⟨v15, q14⟩ := tm_atI I_10 h_q0_10 (k := 16) rfl
            refine tr_getK q14 d_TrustDeskModel_isWord_41 f_TrustDeskModel_195_13 ?_
            have := kKR_10.f (k := 16) q14 rfl
            have := tm_rv q14
            refine mv_iload_n d_TrustDeskModel_isWord_44 rfl rfl ?_
            refine mv_iadd d_TrustDeskModel_isWord_45 ?_
            have b16 : (v15 + i2_10 : Int32).toInt = (v15.toInt + i2_10.toInt) := mz_add2 rfl rfl (by have := kKR_10.1 15 _ _ rfl; have := kKR_10.1 16 _ _ rfl; have := kKR_10.1 19 _ _ rfl; omega) (by have := kKR_10.1 15 _ _ rfl; have := kKR_10.1 16 _ _ rfl; have := kKR_10.1 19 _ _ rfl; omega)
            refine tr_baldR (o := o0) (k := 13) I_10 q12 t_a13 (by decide) d_TrustDeskModel_isWord_46 (vp_in_iff.mpr (by have := kKR_10.1 15 _ _ rfl; have := kKR_10.1 16 _ _ rfl; have := kKR_10.1 19 _ _ rfl; omega)) (fun v17 e18 => ?_)
            have := kKR_10.a (k := 13) rfl ((v15 + i2_10) : Int32).toNatClampNeg
            refine mv_aload_n d_TrustDeskModel_isWord_47 rfl rfl ?_
            refine mv_iload_n d_TrustDeskModel_isWord_48 rfl rfl ?_
            refine mv_schN (i := 5) (N := 4) d_TrustDeskModel_isWord_49 lV_TrustDeskModel_220 (by decide) rfl rfl (by omega) (by omega) (Nat.le_of_ble_eq_true rfl) (fun v19 => ?_)
            have := mz_hi v17
            have := mz_hi v19
            refine mv_icmp_eqZ (tgt := 57) (a := v17.toInt) (b := v19.toInt) d_TrustDeskModel_isWord_52 (by decide) rfl rfl (fun b20 => ?_) (fun b20 => ?_)
            · refine mv_iinc (v := (i2_10 + 1)) (lv' := [(2, .int (i2_10 + 1)), (0, .ref o0), (1, .ref 15)]) d_TrustDeskModel_isWord_57 rfl rfl (by decide) rfl ?_
              refine mv_goto (tgt := 28) d_TrustDeskModel_isWord_60 (by decide) ?_
              have b21 : (i2_10 + 1).toInt = i2_10.toInt + 1 := mz_addn 1 1 (by decide) (by have := mz_lo i2_10; omega) (by have := mz_hi i2_10; omega)
              exact (ih10 (i2_10 + 1) T_10 M_10 n_10 I_10 h_q0_10 (by have := kKR_10.1 15 _ _ rfl; have := kKR_10.1 16 _ _ rfl; have := kKR_10.1 19 _ _ rfl; first | omega | decide | exact fun h9 => absurd (by decide) h9) (by have := kKR_10.1 15 _ _ rfl; have := kKR_10.1 16 _ _ rfl; have := kKR_10.1 19 _ _ rfl; first | omega | decide | exact fun h9 => absurd (by decide) h9) (by have := kKR_10.1 15 _ _ rfl; have := kKR_10.1 16 _ _ rfl; have := kKR_10.1 19 _ _ rfl; first | omega | decide | exact fun h9 => absurd (by decide) h9) (by have := kKR_10.1 15 _ _ rfl; have := kKR_10.1 16 _ _ rfl; have := kKR_10.1 19 _ _ rfl; first | omega | decide | exact fun h9 => absurd (by decide) h9) kKR_10 (by have := kKR_10.1 15 _ _ rfl; have := kKR_10.1 16 _ _ rfl; have := kKR_10.1 19 _ _ rfl; omega))
            · refine mv_iconst (v := 0) d_TrustDeskModel_isWord_55 (by decide) ?_
              exact mv_iret d_TrustDeskModel_isWord_56 rfl (by decide) ⟨_, I_10, _, rfl, by decide, by decide, kKR_10, (fun h => absurd h (by decide))⟩
      exact mv_less (Nat.zero_le _) (Nat.zero_le _) (L28_10 4294967296 0 T0 M0 n0 I0 h_o0 (by have := yR.1 15 _ _ rfl; have := yR.1 16 _ _ rfl; have := yR.1 19 _ _ rfl; first | omega | decide | exact fun h9 => absurd (by decide) h9) (by have := yR.1 15 _ _ rfl; have := yR.1 16 _ _ rfl; have := yR.1 19 _ _ rfl; first | omega | decide | exact fun h9 => absurd (by decide) h9) (by have := yR.1 15 _ _ rfl; have := yR.1 16 _ _ rfl; have := yR.1 19 _ _ rfl; first | omega | decide | exact fun h9 => absurd (by decide) h9) (by have := yR.1 15 _ _ rfl; have := yR.1 16 _ _ rfl; have := yR.1 19 _ _ rfl; first | omega | decide | exact fun h9 => absurd (by decide) h9) yR (by show (2147483647 - (0 : Int) : Int) < _; decide))
    · refine mv_iconst (v := 0) d_TrustDeskModel_isWord_24 (by decide) ?_
      exact mv_iret d_TrustDeskModel_isWord_25 rfl (by decide) ⟨_, I0, _, rfl, by decide, by decide, yR, (fun h => absurd h (by decide))⟩
theorem d_TrustDeskModel_ruleWord_21 : decode kY_TrustDeskModel_ruleWord.2.1 21 = .ok (.ifCond .eq 7, 3) := by decide +kernel
theorem d_TrustDeskModel_ruleWord_28 : decode kY_TrustDeskModel_ruleWord.2.1 28 = .ok (.aload_n 0, 1) := by decide +kernel
theorem d_TrustDeskModel_ruleWord_29 : decode kY_TrustDeskModel_ruleWord.2.1 29 = .ok (.ldc_w 355, 3) := by decide +kernel
theorem d_TrustDeskModel_ruleWord_32 : decode kY_TrustDeskModel_ruleWord.2.1 32 = .ok (.invokevirtual 244, 3) := by decide +kernel
def w_TrustDeskModel_isWord_s1_16_x : List Nat := []
theorem tc_TrustDeskModel_isWord_s1_16_x {g : mj_G} {l : Launch} {d : Nat} {T0 : tm_H} {M0 : mj_M} {n0 x9 : Nat} {o0 : Nat} (h_o0 : T0 o0 = some (0, 13, 0)) (yR : rI M0 o0) (I0 : tm_I tm_FT (tm_in w_TrustDeskModel_isWord_s1_16_x) x9 T0 M0 n0 T0 M0 n0) : mj_Met g l kY_TrustDeskModel_isWord (d + 4) [.ref o0, .ref 16] M0 n0 0 0 (tm_Q tm_FT (tm_in w_TrustDeskModel_isWord_s1_16_x) x9 T0 M0 n0 (fun r _ M => ∃ v : Int32, r = some (.int v) ∧ 0 ≤ v.toInt ∧ v.toInt ≤ 1 ∧ rI M o0 ∧ (v.toInt = 1 → rv M0 o0 17 = 3))) := by
  refine mj_enter (by decide) (Nat.le_of_ble_eq_true rfl) ?_
  refine mv_aload_n d_TrustDeskModel_isWord_0 rfl rfl ?_
  obtain ⟨v2, q1⟩ := tm_atI I0 h_o0 (k := 17) rfl
  refine tr_getK q1 d_TrustDeskModel_isWord_1 f_TrustDeskModel_198_13 ?_
  have := tm_rv q1
  refine mv_iconst (v := 3) d_TrustDeskModel_isWord_4 (by decide) ?_
  have := mz_hi v2
  refine mv_icmp_neZ (tgt := 24) (a := v2.toInt) (b := 3) d_TrustDeskModel_isWord_5 (by decide) rfl (by decide) (fun b3 => ?_) (fun b3 => ?_)
  · refine mv_iconst (v := 0) d_TrustDeskModel_isWord_24 (by decide) ?_
    exact mv_iret d_TrustDeskModel_isWord_25 rfl (by decide) ⟨_, I0, _, rfl, by decide, by decide, yR, (fun h => absurd h (by decide))⟩
  · refine mv_aload_n d_TrustDeskModel_isWord_8 rfl rfl ?_
    obtain ⟨v5, q4⟩ := tm_atI I0 h_o0 (k := 15) rfl
    refine tr_getK q4 d_TrustDeskModel_isWord_9 f_TrustDeskModel_192_13 ?_
    have := yR.f (k := 15) q4 rfl
    have := tm_rv q4
    refine mv_aload_n d_TrustDeskModel_isWord_12 rfl rfl ?_
    obtain ⟨v7, q6⟩ := tm_atI I0 h_o0 (k := 16) rfl
    refine tr_getK q6 d_TrustDeskModel_isWord_13 f_TrustDeskModel_195_13 ?_
    have := yR.f (k := 16) q6 rfl
    have := tm_rv q6
    refine mv_isub d_TrustDeskModel_isWord_16 ?_
    refine mv_aload_n d_TrustDeskModel_isWord_17 rfl rfl ?_
    refine mv_slenK (i := 6) (v := 4) d_TrustDeskModel_isWord_18 lV_TrustDeskModel_214 (by decide) rfl (by decide) (Nat.le_of_ble_eq_true rfl) ?_
    have b8 : (v5 - v7 : Int32).toInt = (v5.toInt - v7.toInt) := mz_sub2 rfl rfl (by have := yR.1 15 _ _ rfl; have := yR.1 16 _ _ rfl; have := yR.1 19 _ _ rfl; omega) (by have := yR.1 15 _ _ rfl; have := yR.1 16 _ _ rfl; have := yR.1 19 _ _ rfl; omega)
    have := mz_hi (v5 - v7)
    refine mv_icmp_eqZ (tgt := 26) (a := (v5 - v7).toInt) (b := 4) d_TrustDeskModel_isWord_21 (by decide) rfl (by decide) (fun b9 => ?_) (fun b9 => ?_)
    · refine mv_iconst (v := 0) d_TrustDeskModel_isWord_26 (by decide) ?_
      refine mv_istore_n (lv' := [(2, .int 0), (0, .ref o0), (1, .ref 16)]) d_TrustDeskModel_isWord_27 rfl (by decide) rfl ?_
      have L28_10 : ∀ (k : Nat) (i2_10 : Int32) (T_10 : tm_H) (M_10 : mj_M) (n_10 : Nat), tm_I tm_FT (tm_in w_TrustDeskModel_isWord_s1_16_x) x9 T0 M0 n0 T_10 M_10 n_10 → T_10 o0 = some (0, 13, 0) → 0 ≤ i2_10.toInt → rv M_10 o0 15 = rv M0 o0 15 → rv M_10 o0 16 = rv M0 o0 16 → i2_10.toInt ≤ 2147483646 → (rI M_10 o0) → 2147483647 - i2_10.toInt < (k : Int) → mj_V g l kY_TrustDeskModel_isWord (d + 4) 28 [(2, .int i2_10), (0, .ref o0), (1, .ref 16)] [] M_10 n_10 0 0 (tm_Q tm_FT (tm_in w_TrustDeskModel_isWord_s1_16_x) x9 T0 M0 n0 (fun r _ M => ∃ v : Int32, r = some (.int v) ∧ 0 ≤ v.toInt ∧ v.toInt ≤ 1 ∧ rI M o0 ∧ (v.toInt = 1 → rv M0 o0 17 = 3))) := by
        intro k10
        induction k10 with
        | zero =>
          intro i2_10 T_10 M_10 n_10 I_10 h_q0_10 iv0_10 iv1_10 iv2_10 iv3_10 kKR_10 hk10
          have := mz_hi i2_10
          have := kKR_10.1 15 _ _ rfl
          have := kKR_10.1 16 _ _ rfl
          have := kKR_10.1 19 _ _ rfl
          omega
        | succ k10 ih10 =>
          intro i2_10 T_10 M_10 n_10 I_10 h_q0_10 iv0_10 iv1_10 iv2_10 iv3_10 kKR_10 hk10
          refine mv_iload_n d_TrustDeskModel_isWord_28 rfl rfl ?_
          refine mv_aload_n d_TrustDeskModel_isWord_29 rfl rfl ?_
          refine mv_slenK (i := 6) (v := 4) d_TrustDeskModel_isWord_30 lV_TrustDeskModel_214 (by decide) rfl (by decide) (Nat.le_of_ble_eq_true rfl) ?_
          have := mz_hi i2_10
          refine mv_icmp_geZ (tgt := 63) (a := i2_10.toInt) (b := 4) d_TrustDeskModel_isWord_33 (by decide) rfl (by decide) (fun b11 => ?_) (fun b11 => ?_)
          · refine mv_iconst (v := 1) d_TrustDeskModel_isWord_63 (by decide) ?_
            exact mv_iret d_TrustDeskModel_isWord_64 rfl (by decide) ⟨_, I_10, _, rfl, by decide, by decide, kKR_10, (fun _ => by omega)⟩
          · refine mv_aload_n d_TrustDeskModel_isWord_36 rfl rfl ?_
            obtain ⟨a13, q12, t_a13⟩ := tm_atR I_10 h_q0_10 (k := 13) rfl
            refine tr_getK q12 d_TrustDeskModel_isWord_37 f_TrustDeskModel_44_13 ?_
            refine mv_aload_n d_TrustDeskModel_isWord_40 rfl rfl ?_
            obtain ⟨v15, q14⟩ := tm_atI I_10 h_q0_10 (k := 16) rfl
            refine tr_getK q14 d_TrustDeskModel_isWord_41 f_TrustDeskModel_195_13 ?_
            have := kKR_10.f (k := 16) q14 rfl
            have := tm_rv q14
            refine mv_iload_n d_TrustDeskModel_isWord_44 rfl rfl ?_
            refine mv_iadd d_TrustDeskModel_isWord_45 ?_
            have b16 : (v15 + i2_10 : Int32).toInt = (v15.toInt + i2_10.toInt) := mz_add2 rfl rfl (by have := kKR_10.1 15 _ _ rfl; have := kKR_10.1 16 _ _ rfl; have := kKR_10.1 19 _ _ rfl; omega) (by have := kKR_10.1 15 _ _ rfl; have := kKR_10.1 16 _ _ rfl; have := kKR_10.1 19 _ _ rfl; omega)
            refine tr_baldR (o := o0) (k := 13) I_10 q12 t_a13 (by decide) d_TrustDeskModel_isWord_46 (vp_in_iff.mpr (by have := kKR_10.1 15 _ _ rfl; have := kKR_10.1 16 _ _ rfl; have := kKR_10.1 19 _ _ rfl; omega)) (fun v17 e18 => ?_)
            have := kKR_10.a (k := 13) rfl ((v15 + i2_10) : Int32).toNatClampNeg
            refine mv_aload_n d_TrustDeskModel_isWord_47 rfl rfl ?_
            refine mv_iload_n d_TrustDeskModel_isWord_48 rfl rfl ?_
            refine mv_schN (i := 6) (N := 4) d_TrustDeskModel_isWord_49 lV_TrustDeskModel_220 (by decide) rfl rfl (by omega) (by omega) (Nat.le_of_ble_eq_true rfl) (fun v19 => ?_)
            have := mz_hi v17
            have := mz_hi v19
            refine mv_icmp_eqZ (tgt := 57) (a := v17.toInt) (b := v19.toInt) d_TrustDeskModel_isWord_52 (by decide) rfl rfl (fun b20 => ?_) (fun b20 => ?_)
            · refine mv_iinc (v := (i2_10 + 1)) (lv' := [(2, .int (i2_10 + 1)), (0, .ref o0), (1, .ref 16)]) d_TrustDeskModel_isWord_57 rfl rfl (by decide) rfl ?_
              refine mv_goto (tgt := 28) d_TrustDeskModel_isWord_60 (by decide) ?_
              have b21 : (i2_10 + 1).toInt = i2_10.toInt + 1 := mz_addn 1 1 (by decide) (by have := mz_lo i2_10; omega) (by have := mz_hi i2_10; omega)
              exact (ih10 (i2_10 + 1) T_10 M_10 n_10 I_10 h_q0_10 (by have := kKR_10.1 15 _ _ rfl; have := kKR_10.1 16 _ _ rfl; have := kKR_10.1 19 _ _ rfl; first | omega | decide | exact fun h9 => absurd (by decide) h9) (by have := kKR_10.1 15 _ _ rfl; have := kKR_10.1 16 _ _ rfl; have := kKR_10.1 19 _ _ rfl; first | omega | decide | exact fun h9 => absurd (by decide) h9) (by have := kKR_10.1 15 _ _ rfl; have := kKR_10.1 16 _ _ rfl; have := kKR_10.1 19 _ _ rfl; first | omega | decide | exact fun h9 => absurd (by decide) h9) (by have := kKR_10.1 15 _ _ rfl; have := kKR_10.1 16 _ _ rfl; have := kKR_10.1 19 _ _ rfl; first | omega | decide | exact fun h9 => absurd (by decide) h9) kKR_10 (by have := kKR_10.1 15 _ _ rfl; have := kKR_10.1 16 _ _ rfl; have := kKR_10.1 19 _ _ rfl; omega))
            · refine mv_iconst (v := 0) d_TrustDeskModel_isWord_55 (by decide) ?_
              exact mv_iret d_TrustDeskModel_isWord_56 rfl (by decide) ⟨_, I_10, _, rfl, by decide, by decide, kKR_10, (fun h => absurd h (by decide))⟩
      exact mv_less (Nat.zero_le _) (Nat.zero_le _) (L28_10 4294967296 0 T0 M0 n0 I0 h_o0 (by have := yR.1 15 _ _ rfl; have := yR.1 16 _ _ rfl; have := yR.1 19 _ _ rfl; first | omega | decide | exact fun h9 => absurd (by decide) h9) (by have := yR.1 15 _ _ rfl; have := yR.1 16 _ _ rfl; have := yR.1 19 _ _ rfl; first | omega | decide | exact fun h9 => absurd (by decide) h9) (by have := yR.1 15 _ _ rfl; have := yR.1 16 _ _ rfl; have := yR.1 19 _ _ rfl; first | omega | decide | exact fun h9 => absurd (by decide) h9) (by have := yR.1 15 _ _ rfl; have := yR.1 16 _ _ rfl; have := yR.1 19 _ _ rfl; first | omega | decide | exact fun h9 => absurd (by decide) h9) yR (by show (2147483647 - (0 : Int) : Int) < _; decide))
    · refine mv_iconst (v := 0) d_TrustDeskModel_isWord_24 (by decide) ?_
      exact mv_iret d_TrustDeskModel_isWord_25 rfl (by decide) ⟨_, I0, _, rfl, by decide, by decide, yR, (fun h => absurd h (by decide))⟩
theorem d_TrustDeskModel_ruleWord_35 : decode kY_TrustDeskModel_ruleWord.2.1 35 = .ok (.ifCond .eq 7, 3) := by decide +kernel
theorem d_TrustDeskModel_ruleWord_42 : decode kY_TrustDeskModel_ruleWord.2.1 42 = .ok (.aload_n 0, 1) := by decide +kernel
theorem d_TrustDeskModel_ruleWord_43 : decode kY_TrustDeskModel_ruleWord.2.1 43 = .ok (.ldc_w 357, 3) := by decide +kernel
theorem d_TrustDeskModel_ruleWord_46 : decode kY_TrustDeskModel_ruleWord.2.1 46 = .ok (.invokevirtual 244, 3) := by decide +kernel
def w_TrustDeskModel_isWord_s1_17_x : List Nat := []
theorem tc_TrustDeskModel_isWord_s1_17_x {g : mj_G} {l : Launch} {d : Nat} {T0 : tm_H} {M0 : mj_M} {n0 x9 : Nat} {o0 : Nat} (h_o0 : T0 o0 = some (0, 13, 0)) (yR : rI M0 o0) (I0 : tm_I tm_FT (tm_in w_TrustDeskModel_isWord_s1_17_x) x9 T0 M0 n0 T0 M0 n0) : mj_Met g l kY_TrustDeskModel_isWord (d + 4) [.ref o0, .ref 17] M0 n0 0 0 (tm_Q tm_FT (tm_in w_TrustDeskModel_isWord_s1_17_x) x9 T0 M0 n0 (fun r _ M => ∃ v : Int32, r = some (.int v) ∧ 0 ≤ v.toInt ∧ v.toInt ≤ 1 ∧ rI M o0 ∧ (v.toInt = 1 → rv M0 o0 17 = 3))) := by
  refine mj_enter (by decide) (Nat.le_of_ble_eq_true rfl) ?_
  refine mv_aload_n d_TrustDeskModel_isWord_0 rfl rfl ?_
  obtain ⟨v2, q1⟩ := tm_atI I0 h_o0 (k := 17) rfl
  refine tr_getK q1 d_TrustDeskModel_isWord_1 f_TrustDeskModel_198_13 ?_
  have := tm_rv q1
  refine mv_iconst (v := 3) d_TrustDeskModel_isWord_4 (by decide) ?_
  have := mz_hi v2
  refine mv_icmp_neZ (tgt := 24) (a := v2.toInt) (b := 3) d_TrustDeskModel_isWord_5 (by decide) rfl (by decide) (fun b3 => ?_) (fun b3 => ?_)
  · refine mv_iconst (v := 0) d_TrustDeskModel_isWord_24 (by decide) ?_
    exact mv_iret d_TrustDeskModel_isWord_25 rfl (by decide) ⟨_, I0, _, rfl, by decide, by decide, yR, (fun h => absurd h (by decide))⟩
  · refine mv_aload_n d_TrustDeskModel_isWord_8 rfl rfl ?_
    obtain ⟨v5, q4⟩ := tm_atI I0 h_o0 (k := 15) rfl
    refine tr_getK q4 d_TrustDeskModel_isWord_9 f_TrustDeskModel_192_13 ?_
    have := yR.f (k := 15) q4 rfl
    have := tm_rv q4
    refine mv_aload_n d_TrustDeskModel_isWord_12 rfl rfl ?_
    obtain ⟨v7, q6⟩ := tm_atI I0 h_o0 (k := 16) rfl
    refine tr_getK q6 d_TrustDeskModel_isWord_13 f_TrustDeskModel_195_13 ?_
    have := yR.f (k := 16) q6 rfl
    have := tm_rv q6
    refine mv_isub d_TrustDeskModel_isWord_16 ?_
    refine mv_aload_n d_TrustDeskModel_isWord_17 rfl rfl ?_
    refine mv_slenK (i := 7) (v := 4) d_TrustDeskModel_isWord_18 lV_TrustDeskModel_214 (by decide) rfl (by decide) (Nat.le_of_ble_eq_true rfl) ?_
    have b8 : (v5 - v7 : Int32).toInt = (v5.toInt - v7.toInt) := mz_sub2 rfl rfl (by have := yR.1 15 _ _ rfl; have := yR.1 16 _ _ rfl; have := yR.1 19 _ _ rfl; omega) (by have := yR.1 15 _ _ rfl; have := yR.1 16 _ _ rfl; have := yR.1 19 _ _ rfl; omega)
    have := mz_hi (v5 - v7)
    refine mv_icmp_eqZ (tgt := 26) (a := (v5 - v7).toInt) (b := 4) d_TrustDeskModel_isWord_21 (by decide) rfl (by decide) (fun b9 => ?_) (fun b9 => ?_)
    · refine mv_iconst (v := 0) d_TrustDeskModel_isWord_26 (by decide) ?_
      refine mv_istore_n (lv' := [(2, .int 0), (0, .ref o0), (1, .ref 17)]) d_TrustDeskModel_isWord_27 rfl (by decide) rfl ?_
      have L28_10 : ∀ (k : Nat) (i2_10 : Int32) (T_10 : tm_H) (M_10 : mj_M) (n_10 : Nat), tm_I tm_FT (tm_in w_TrustDeskModel_isWord_s1_17_x) x9 T0 M0 n0 T_10 M_10 n_10 → T_10 o0 = some (0, 13, 0) → 0 ≤ i2_10.toInt → rv M_10 o0 15 = rv M0 o0 15 → rv M_10 o0 16 = rv M0 o0 16 → i2_10.toInt ≤ 2147483646 → (rI M_10 o0) → 2147483647 - i2_10.toInt < (k : Int) → mj_V g l kY_TrustDeskModel_isWord (d + 4) 28 [(2, .int i2_10), (0, .ref o0), (1, .ref 17)] [] M_10 n_10 0 0 (tm_Q tm_FT (tm_in w_TrustDeskModel_isWord_s1_17_x) x9 T0 M0 n0 (fun r _ M => ∃ v : Int32, r = some (.int v) ∧ 0 ≤ v.toInt ∧ v.toInt ≤ 1 ∧ rI M o0 ∧ (v.toInt = 1 → rv M0 o0 17 = 3))) := by
        intro k10
        induction k10 with
        | zero =>
          intro i2_10 T_10 M_10 n_10 I_10 h_q0_10 iv0_10 iv1_10 iv2_10 iv3_10 kKR_10 hk10
          have := mz_hi i2_10
          have := kKR_10.1 15 _ _ rfl
          have := kKR_10.1 16 _ _ rfl
          have := kKR_10.1 19 _ _ rfl
          omega
        | succ k10 ih10 =>
          intro i2_10 T_10 M_10 n_10 I_10 h_q0_10 iv0_10 iv1_10 iv2_10 iv3_10 kKR_10 hk10
          refine mv_iload_n d_TrustDeskModel_isWord_28 rfl rfl ?_
          refine mv_aload_n d_TrustDeskModel_isWord_29 rfl rfl ?_
          refine mv_slenK (i := 7) (v := 4) d_TrustDeskModel_isWord_30 lV_TrustDeskModel_214 (by decide) rfl (by decide) (Nat.le_of_ble_eq_true rfl) ?_
          have := mz_hi i2_10
          refine mv_icmp_geZ (tgt := 63) (a := i2_10.toInt) (b := 4) d_TrustDeskModel_isWord_33 (by decide) rfl (by decide) (fun b11 => ?_) (fun b11 => ?_)
          · refine mv_iconst (v := 1) d_TrustDeskModel_isWord_63 (by decide) ?_
            exact mv_iret d_TrustDeskModel_isWord_64 rfl (by decide) ⟨_, I_10, _, rfl, by decide, by decide, kKR_10, (fun _ => by omega)⟩
          · refine mv_aload_n d_TrustDeskModel_isWord_36 rfl rfl ?_
            obtain ⟨a13, q12, t_a13⟩ := tm_atR I_10 h_q0_10 (k := 13) rfl
            refine tr_getK q12 d_TrustDeskModel_isWord_37 f_TrustDeskModel_44_13 ?_
            refine mv_aload_n d_TrustDeskModel_isWord_40 rfl rfl ?_
            obtain ⟨v15, q14⟩ := tm_atI I_10 h_q0_10 (k := 16) rfl
            refine tr_getK q14 d_TrustDeskModel_isWord_41 f_TrustDeskModel_195_13 ?_
            have := kKR_10.f (k := 16) q14 rfl
            have := tm_rv q14
            refine mv_iload_n d_TrustDeskModel_isWord_44 rfl rfl ?_
            refine mv_iadd d_TrustDeskModel_isWord_45 ?_
            have b16 : (v15 + i2_10 : Int32).toInt = (v15.toInt + i2_10.toInt) := mz_add2 rfl rfl (by have := kKR_10.1 15 _ _ rfl; have := kKR_10.1 16 _ _ rfl; have := kKR_10.1 19 _ _ rfl; omega) (by have := kKR_10.1 15 _ _ rfl; have := kKR_10.1 16 _ _ rfl; have := kKR_10.1 19 _ _ rfl; omega)
            refine tr_baldR (o := o0) (k := 13) I_10 q12 t_a13 (by decide) d_TrustDeskModel_isWord_46 (vp_in_iff.mpr (by have := kKR_10.1 15 _ _ rfl; have := kKR_10.1 16 _ _ rfl; have := kKR_10.1 19 _ _ rfl; omega)) (fun v17 e18 => ?_)
            have := kKR_10.a (k := 13) rfl ((v15 + i2_10) : Int32).toNatClampNeg
            refine mv_aload_n d_TrustDeskModel_isWord_47 rfl rfl ?_
            refine mv_iload_n d_TrustDeskModel_isWord_48 rfl rfl ?_
            refine mv_schN (i := 7) (N := 4) d_TrustDeskModel_isWord_49 lV_TrustDeskModel_220 (by decide) rfl rfl (by omega) (by omega) (Nat.le_of_ble_eq_true rfl) (fun v19 => ?_)
            have := mz_hi v17
            have := mz_hi v19
            refine mv_icmp_eqZ (tgt := 57) (a := v17.toInt) (b := v19.toInt) d_TrustDeskModel_isWord_52 (by decide) rfl rfl (fun b20 => ?_) (fun b20 => ?_)
            · refine mv_iinc (v := (i2_10 + 1)) (lv' := [(2, .int (i2_10 + 1)), (0, .ref o0), (1, .ref 17)]) d_TrustDeskModel_isWord_57 rfl rfl (by decide) rfl ?_
              refine mv_goto (tgt := 28) d_TrustDeskModel_isWord_60 (by decide) ?_
              have b21 : (i2_10 + 1).toInt = i2_10.toInt + 1 := mz_addn 1 1 (by decide) (by have := mz_lo i2_10; omega) (by have := mz_hi i2_10; omega)
              exact (ih10 (i2_10 + 1) T_10 M_10 n_10 I_10 h_q0_10 (by have := kKR_10.1 15 _ _ rfl; have := kKR_10.1 16 _ _ rfl; have := kKR_10.1 19 _ _ rfl; first | omega | decide | exact fun h9 => absurd (by decide) h9) (by have := kKR_10.1 15 _ _ rfl; have := kKR_10.1 16 _ _ rfl; have := kKR_10.1 19 _ _ rfl; first | omega | decide | exact fun h9 => absurd (by decide) h9) (by have := kKR_10.1 15 _ _ rfl; have := kKR_10.1 16 _ _ rfl; have := kKR_10.1 19 _ _ rfl; first | omega | decide | exact fun h9 => absurd (by decide) h9) (by have := kKR_10.1 15 _ _ rfl; have := kKR_10.1 16 _ _ rfl; have := kKR_10.1 19 _ _ rfl; first | omega | decide | exact fun h9 => absurd (by decide) h9) kKR_10 (by have := kKR_10.1 15 _ _ rfl; have := kKR_10.1 16 _ _ rfl; have := kKR_10.1 19 _ _ rfl; omega))
            · refine mv_iconst (v := 0) d_TrustDeskModel_isWord_55 (by decide) ?_
              exact mv_iret d_TrustDeskModel_isWord_56 rfl (by decide) ⟨_, I_10, _, rfl, by decide, by decide, kKR_10, (fun h => absurd h (by decide))⟩
      exact mv_less (Nat.zero_le _) (Nat.zero_le _) (L28_10 4294967296 0 T0 M0 n0 I0 h_o0 (by have := yR.1 15 _ _ rfl; have := yR.1 16 _ _ rfl; have := yR.1 19 _ _ rfl; first | omega | decide | exact fun h9 => absurd (by decide) h9) (by have := yR.1 15 _ _ rfl; have := yR.1 16 _ _ rfl; have := yR.1 19 _ _ rfl; first | omega | decide | exact fun h9 => absurd (by decide) h9) (by have := yR.1 15 _ _ rfl; have := yR.1 16 _ _ rfl; have := yR.1 19 _ _ rfl; first | omega | decide | exact fun h9 => absurd (by decide) h9) (by have := yR.1 15 _ _ rfl; have := yR.1 16 _ _ rfl; have := yR.1 19 _ _ rfl; first | omega | decide | exact fun h9 => absurd (by decide) h9) yR (by show (2147483647 - (0 : Int) : Int) < _; decide))
    · refine mv_iconst (v := 0) d_TrustDeskModel_isWord_24 (by decide) ?_
      exact mv_iret d_TrustDeskModel_isWord_25 rfl (by decide) ⟨_, I0, _, rfl, by decide, by decide, yR, (fun h => absurd h (by decide))⟩
theorem d_TrustDeskModel_ruleWord_49 : decode kY_TrustDeskModel_ruleWord.2.1 49 = .ok (.ifCond .eq 7, 3) := by decide +kernel
theorem d_TrustDeskModel_ruleWord_56 : decode kY_TrustDeskModel_ruleWord.2.1 56 = .ok (.aload_n 0, 1) := by decide +kernel
theorem d_TrustDeskModel_ruleWord_57 : decode kY_TrustDeskModel_ruleWord.2.1 57 = .ok (.ldc_w 359, 3) := by decide +kernel
theorem d_TrustDeskModel_ruleWord_60 : decode kY_TrustDeskModel_ruleWord.2.1 60 = .ok (.invokevirtual 244, 3) := by decide +kernel
def w_TrustDeskModel_isWord_s1_18_x : List Nat := []
theorem tc_TrustDeskModel_isWord_s1_18_x {g : mj_G} {l : Launch} {d : Nat} {T0 : tm_H} {M0 : mj_M} {n0 x9 : Nat} {o0 : Nat} (h_o0 : T0 o0 = some (0, 13, 0)) (yR : rI M0 o0) (I0 : tm_I tm_FT (tm_in w_TrustDeskModel_isWord_s1_18_x) x9 T0 M0 n0 T0 M0 n0) : mj_Met g l kY_TrustDeskModel_isWord (d + 4) [.ref o0, .ref 18] M0 n0 0 0 (tm_Q tm_FT (tm_in w_TrustDeskModel_isWord_s1_18_x) x9 T0 M0 n0 (fun r _ M => ∃ v : Int32, r = some (.int v) ∧ 0 ≤ v.toInt ∧ v.toInt ≤ 1 ∧ rI M o0 ∧ (v.toInt = 1 → rv M0 o0 17 = 3))) := by
  refine mj_enter (by decide) (Nat.le_of_ble_eq_true rfl) ?_
  refine mv_aload_n d_TrustDeskModel_isWord_0 rfl rfl ?_
  obtain ⟨v2, q1⟩ := tm_atI I0 h_o0 (k := 17) rfl
  refine tr_getK q1 d_TrustDeskModel_isWord_1 f_TrustDeskModel_198_13 ?_
  have := tm_rv q1
  refine mv_iconst (v := 3) d_TrustDeskModel_isWord_4 (by decide) ?_
  have := mz_hi v2
  refine mv_icmp_neZ (tgt := 24) (a := v2.toInt) (b := 3) d_TrustDeskModel_isWord_5 (by decide) rfl (by decide) (fun b3 => ?_) (fun b3 => ?_)
  · refine mv_iconst (v := 0) d_TrustDeskModel_isWord_24 (by decide) ?_
    exact mv_iret d_TrustDeskModel_isWord_25 rfl (by decide) ⟨_, I0, _, rfl, by decide, by decide, yR, (fun h => absurd h (by decide))⟩
  · refine mv_aload_n d_TrustDeskModel_isWord_8 rfl rfl ?_
    obtain ⟨v5, q4⟩ := tm_atI I0 h_o0 (k := 15) rfl
    refine tr_getK q4 d_TrustDeskModel_isWord_9 f_TrustDeskModel_192_13 ?_
    have := yR.f (k := 15) q4 rfl
    have := tm_rv q4
    refine mv_aload_n d_TrustDeskModel_isWord_12 rfl rfl ?_
    obtain ⟨v7, q6⟩ := tm_atI I0 h_o0 (k := 16) rfl
    refine tr_getK q6 d_TrustDeskModel_isWord_13 f_TrustDeskModel_195_13 ?_
    have := yR.f (k := 16) q6 rfl
    have := tm_rv q6
    refine mv_isub d_TrustDeskModel_isWord_16 ?_
    refine mv_aload_n d_TrustDeskModel_isWord_17 rfl rfl ?_
    refine mv_slenK (i := 8) (v := 4) d_TrustDeskModel_isWord_18 lV_TrustDeskModel_214 (by decide) rfl (by decide) (Nat.le_of_ble_eq_true rfl) ?_
    have b8 : (v5 - v7 : Int32).toInt = (v5.toInt - v7.toInt) := mz_sub2 rfl rfl (by have := yR.1 15 _ _ rfl; have := yR.1 16 _ _ rfl; have := yR.1 19 _ _ rfl; omega) (by have := yR.1 15 _ _ rfl; have := yR.1 16 _ _ rfl; have := yR.1 19 _ _ rfl; omega)
    have := mz_hi (v5 - v7)
    refine mv_icmp_eqZ (tgt := 26) (a := (v5 - v7).toInt) (b := 4) d_TrustDeskModel_isWord_21 (by decide) rfl (by decide) (fun b9 => ?_) (fun b9 => ?_)
    · refine mv_iconst (v := 0) d_TrustDeskModel_isWord_26 (by decide) ?_
      refine mv_istore_n (lv' := [(2, .int 0), (0, .ref o0), (1, .ref 18)]) d_TrustDeskModel_isWord_27 rfl (by decide) rfl ?_
      have L28_10 : ∀ (k : Nat) (i2_10 : Int32) (T_10 : tm_H) (M_10 : mj_M) (n_10 : Nat), tm_I tm_FT (tm_in w_TrustDeskModel_isWord_s1_18_x) x9 T0 M0 n0 T_10 M_10 n_10 → T_10 o0 = some (0, 13, 0) → 0 ≤ i2_10.toInt → rv M_10 o0 15 = rv M0 o0 15 → rv M_10 o0 16 = rv M0 o0 16 → i2_10.toInt ≤ 2147483646 → (rI M_10 o0) → 2147483647 - i2_10.toInt < (k : Int) → mj_V g l kY_TrustDeskModel_isWord (d + 4) 28 [(2, .int i2_10), (0, .ref o0), (1, .ref 18)] [] M_10 n_10 0 0 (tm_Q tm_FT (tm_in w_TrustDeskModel_isWord_s1_18_x) x9 T0 M0 n0 (fun r _ M => ∃ v : Int32, r = some (.int v) ∧ 0 ≤ v.toInt ∧ v.toInt ≤ 1 ∧ rI M o0 ∧ (v.toInt = 1 → rv M0 o0 17 = 3))) := by
        intro k10
        induction k10 with
        | zero =>
          intro i2_10 T_10 M_10 n_10 I_10 h_q0_10 iv0_10 iv1_10 iv2_10 iv3_10 kKR_10 hk10
          have := mz_hi i2_10
          have := kKR_10.1 15 _ _ rfl
          have := kKR_10.1 16 _ _ rfl
          have := kKR_10.1 19 _ _ rfl
          omega
        | succ k10 ih10 =>
          intro i2_10 T_10 M_10 n_10 I_10 h_q0_10 iv0_10 iv1_10 iv2_10 iv3_10 kKR_10 hk10
          refine mv_iload_n d_TrustDeskModel_isWord_28 rfl rfl ?_
          refine mv_aload_n d_TrustDeskModel_isWord_29 rfl rfl ?_
          refine mv_slenK (i := 8) (v := 4) d_TrustDeskModel_isWord_30 lV_TrustDeskModel_214 (by decide) rfl (by decide) (Nat.le_of_ble_eq_true rfl) ?_
          have := mz_hi i2_10
          refine mv_icmp_geZ (tgt := 63) (a := i2_10.toInt) (b := 4) d_TrustDeskModel_isWord_33 (by decide) rfl (by decide) (fun b11 => ?_) (fun b11 => ?_)
          · refine mv_iconst (v := 1) d_TrustDeskModel_isWord_63 (by decide) ?_
            exact mv_iret d_TrustDeskModel_isWord_64 rfl (by decide) ⟨_, I_10, _, rfl, by decide, by decide, kKR_10, (fun _ => by omega)⟩
          · refine mv_aload_n d_TrustDeskModel_isWord_36 rfl rfl ?_
            obtain ⟨a13, q12, t_a13⟩ := tm_atR I_10 h_q0_10 (k := 13) rfl
            refine tr_getK q12 d_TrustDeskModel_isWord_37 f_TrustDeskModel_44_13 ?_
            refine mv_aload_n d_TrustDeskModel_isWord_40 rfl rfl ?_
            obtain ⟨v15, q14⟩ := tm_atI I_10 h_q0_10 (k := 16) rfl
            refine tr_getK q14 d_TrustDeskModel_isWord_41 f_TrustDeskModel_195_13 ?_
            have := kKR_10.f (k := 16) q14 rfl
            have := tm_rv q14
            refine mv_iload_n d_TrustDeskModel_isWord_44 rfl rfl ?_
            refine mv_iadd d_TrustDeskModel_isWord_45 ?_
            have b16 : (v15 + i2_10 : Int32).toInt = (v15.toInt + i2_10.toInt) := mz_add2 rfl rfl (by have := kKR_10.1 15 _ _ rfl; have := kKR_10.1 16 _ _ rfl; have := kKR_10.1 19 _ _ rfl; omega) (by have := kKR_10.1 15 _ _ rfl; have := kKR_10.1 16 _ _ rfl; have := kKR_10.1 19 _ _ rfl; omega)
            refine tr_baldR (o := o0) (k := 13) I_10 q12 t_a13 (by decide) d_TrustDeskModel_isWord_46 (vp_in_iff.mpr (by have := kKR_10.1 15 _ _ rfl; have := kKR_10.1 16 _ _ rfl; have := kKR_10.1 19 _ _ rfl; omega)) (fun v17 e18 => ?_)
            have := kKR_10.a (k := 13) rfl ((v15 + i2_10) : Int32).toNatClampNeg
            refine mv_aload_n d_TrustDeskModel_isWord_47 rfl rfl ?_
            refine mv_iload_n d_TrustDeskModel_isWord_48 rfl rfl ?_
            refine mv_schN (i := 8) (N := 4) d_TrustDeskModel_isWord_49 lV_TrustDeskModel_220 (by decide) rfl rfl (by omega) (by omega) (Nat.le_of_ble_eq_true rfl) (fun v19 => ?_)
            have := mz_hi v17
            have := mz_hi v19
            refine mv_icmp_eqZ (tgt := 57) (a := v17.toInt) (b := v19.toInt) d_TrustDeskModel_isWord_52 (by decide) rfl rfl (fun b20 => ?_) (fun b20 => ?_)
            · refine mv_iinc (v := (i2_10 + 1)) (lv' := [(2, .int (i2_10 + 1)), (0, .ref o0), (1, .ref 18)]) d_TrustDeskModel_isWord_57 rfl rfl (by decide) rfl ?_
              refine mv_goto (tgt := 28) d_TrustDeskModel_isWord_60 (by decide) ?_
              have b21 : (i2_10 + 1).toInt = i2_10.toInt + 1 := mz_addn 1 1 (by decide) (by have := mz_lo i2_10; omega) (by have := mz_hi i2_10; omega)
              exact (ih10 (i2_10 + 1) T_10 M_10 n_10 I_10 h_q0_10 (by have := kKR_10.1 15 _ _ rfl; have := kKR_10.1 16 _ _ rfl; have := kKR_10.1 19 _ _ rfl; first | omega | decide | exact fun h9 => absurd (by decide) h9) (by have := kKR_10.1 15 _ _ rfl; have := kKR_10.1 16 _ _ rfl; have := kKR_10.1 19 _ _ rfl; first | omega | decide | exact fun h9 => absurd (by decide) h9) (by have := kKR_10.1 15 _ _ rfl; have := kKR_10.1 16 _ _ rfl; have := kKR_10.1 19 _ _ rfl; first | omega | decide | exact fun h9 => absurd (by decide) h9) (by have := kKR_10.1 15 _ _ rfl; have := kKR_10.1 16 _ _ rfl; have := kKR_10.1 19 _ _ rfl; first | omega | decide | exact fun h9 => absurd (by decide) h9) kKR_10 (by have := kKR_10.1 15 _ _ rfl; have := kKR_10.1 16 _ _ rfl; have := kKR_10.1 19 _ _ rfl; omega))
            · refine mv_iconst (v := 0) d_TrustDeskModel_isWord_55 (by decide) ?_
              exact mv_iret d_TrustDeskModel_isWord_56 rfl (by decide) ⟨_, I_10, _, rfl, by decide, by decide, kKR_10, (fun h => absurd h (by decide))⟩
      exact mv_less (Nat.zero_le _) (Nat.zero_le _) (L28_10 4294967296 0 T0 M0 n0 I0 h_o0 (by have := yR.1 15 _ _ rfl; have := yR.1 16 _ _ rfl; have := yR.1 19 _ _ rfl; first | omega | decide | exact fun h9 => absurd (by decide) h9) (by have := yR.1 15 _ _ rfl; have := yR.1 16 _ _ rfl; have := yR.1 19 _ _ rfl; first | omega | decide | exact fun h9 => absurd (by decide) h9) (by have := yR.1 15 _ _ rfl; have := yR.1 16 _ _ rfl; have := yR.1 19 _ _ rfl; first | omega | decide | exact fun h9 => absurd (by decide) h9) (by have := yR.1 15 _ _ rfl; have := yR.1 16 _ _ rfl; have := yR.1 19 _ _ rfl; first | omega | decide | exact fun h9 => absurd (by decide) h9) yR (by show (2147483647 - (0 : Int) : Int) < _; decide))
    · refine mv_iconst (v := 0) d_TrustDeskModel_isWord_24 (by decide) ?_
      exact mv_iret d_TrustDeskModel_isWord_25 rfl (by decide) ⟨_, I0, _, rfl, by decide, by decide, yR, (fun h => absurd h (by decide))⟩
theorem d_TrustDeskModel_ruleWord_63 : decode kY_TrustDeskModel_ruleWord.2.1 63 = .ok (.ifCond .eq 7, 3) := by decide +kernel
theorem d_TrustDeskModel_ruleWord_70 : decode kY_TrustDeskModel_ruleWord.2.1 70 = .ok (.aload_n 0, 1) := by decide +kernel
theorem d_TrustDeskModel_ruleWord_71 : decode kY_TrustDeskModel_ruleWord.2.1 71 = .ok (.ldc_w 361, 3) := by decide +kernel
theorem d_TrustDeskModel_ruleWord_74 : decode kY_TrustDeskModel_ruleWord.2.1 74 = .ok (.invokevirtual 244, 3) := by decide +kernel
def w_TrustDeskModel_isWord_s1_19_x : List Nat := []
theorem tc_TrustDeskModel_isWord_s1_19_x {g : mj_G} {l : Launch} {d : Nat} {T0 : tm_H} {M0 : mj_M} {n0 x9 : Nat} {o0 : Nat} (h_o0 : T0 o0 = some (0, 13, 0)) (yR : rI M0 o0) (I0 : tm_I tm_FT (tm_in w_TrustDeskModel_isWord_s1_19_x) x9 T0 M0 n0 T0 M0 n0) : mj_Met g l kY_TrustDeskModel_isWord (d + 4) [.ref o0, .ref 19] M0 n0 0 0 (tm_Q tm_FT (tm_in w_TrustDeskModel_isWord_s1_19_x) x9 T0 M0 n0 (fun r _ M => ∃ v : Int32, r = some (.int v) ∧ 0 ≤ v.toInt ∧ v.toInt ≤ 1 ∧ rI M o0 ∧ (v.toInt = 1 → rv M0 o0 17 = 3))) := by
  refine mj_enter (by decide) (Nat.le_of_ble_eq_true rfl) ?_
  refine mv_aload_n d_TrustDeskModel_isWord_0 rfl rfl ?_
  obtain ⟨v2, q1⟩ := tm_atI I0 h_o0 (k := 17) rfl
  refine tr_getK q1 d_TrustDeskModel_isWord_1 f_TrustDeskModel_198_13 ?_
  have := tm_rv q1
  refine mv_iconst (v := 3) d_TrustDeskModel_isWord_4 (by decide) ?_
  have := mz_hi v2
  refine mv_icmp_neZ (tgt := 24) (a := v2.toInt) (b := 3) d_TrustDeskModel_isWord_5 (by decide) rfl (by decide) (fun b3 => ?_) (fun b3 => ?_)
  · refine mv_iconst (v := 0) d_TrustDeskModel_isWord_24 (by decide) ?_
    exact mv_iret d_TrustDeskModel_isWord_25 rfl (by decide) ⟨_, I0, _, rfl, by decide, by decide, yR, (fun h => absurd h (by decide))⟩
  · refine mv_aload_n d_TrustDeskModel_isWord_8 rfl rfl ?_
    obtain ⟨v5, q4⟩ := tm_atI I0 h_o0 (k := 15) rfl
    refine tr_getK q4 d_TrustDeskModel_isWord_9 f_TrustDeskModel_192_13 ?_
    have := yR.f (k := 15) q4 rfl
    have := tm_rv q4
    refine mv_aload_n d_TrustDeskModel_isWord_12 rfl rfl ?_
    obtain ⟨v7, q6⟩ := tm_atI I0 h_o0 (k := 16) rfl
    refine tr_getK q6 d_TrustDeskModel_isWord_13 f_TrustDeskModel_195_13 ?_
    have := yR.f (k := 16) q6 rfl
    have := tm_rv q6
    refine mv_isub d_TrustDeskModel_isWord_16 ?_
    refine mv_aload_n d_TrustDeskModel_isWord_17 rfl rfl ?_
    refine mv_slenK (i := 9) (v := 4) d_TrustDeskModel_isWord_18 lV_TrustDeskModel_214 (by decide) rfl (by decide) (Nat.le_of_ble_eq_true rfl) ?_
    have b8 : (v5 - v7 : Int32).toInt = (v5.toInt - v7.toInt) := mz_sub2 rfl rfl (by have := yR.1 15 _ _ rfl; have := yR.1 16 _ _ rfl; have := yR.1 19 _ _ rfl; omega) (by have := yR.1 15 _ _ rfl; have := yR.1 16 _ _ rfl; have := yR.1 19 _ _ rfl; omega)
    have := mz_hi (v5 - v7)
    refine mv_icmp_eqZ (tgt := 26) (a := (v5 - v7).toInt) (b := 4) d_TrustDeskModel_isWord_21 (by decide) rfl (by decide) (fun b9 => ?_) (fun b9 => ?_)
    · refine mv_iconst (v := 0) d_TrustDeskModel_isWord_26 (by decide) ?_
      refine mv_istore_n (lv' := [(2, .int 0), (0, .ref o0), (1, .ref 19)]) d_TrustDeskModel_isWord_27 rfl (by decide) rfl ?_
      have L28_10 : ∀ (k : Nat) (i2_10 : Int32) (T_10 : tm_H) (M_10 : mj_M) (n_10 : Nat), tm_I tm_FT (tm_in w_TrustDeskModel_isWord_s1_19_x) x9 T0 M0 n0 T_10 M_10 n_10 → T_10 o0 = some (0, 13, 0) → 0 ≤ i2_10.toInt → rv M_10 o0 15 = rv M0 o0 15 → rv M_10 o0 16 = rv M0 o0 16 → i2_10.toInt ≤ 2147483646 → (rI M_10 o0) → 2147483647 - i2_10.toInt < (k : Int) → mj_V g l kY_TrustDeskModel_isWord (d + 4) 28 [(2, .int i2_10), (0, .ref o0), (1, .ref 19)] [] M_10 n_10 0 0 (tm_Q tm_FT (tm_in w_TrustDeskModel_isWord_s1_19_x) x9 T0 M0 n0 (fun r _ M => ∃ v : Int32, r = some (.int v) ∧ 0 ≤ v.toInt ∧ v.toInt ≤ 1 ∧ rI M o0 ∧ (v.toInt = 1 → rv M0 o0 17 = 3))) := by
        intro k10
        induction k10 with
        | zero =>
          intro i2_10 T_10 M_10 n_10 I_10 h_q0_10 iv0_10 iv1_10 iv2_10 iv3_10 kKR_10 hk10
          have := mz_hi i2_10
          have := kKR_10.1 15 _ _ rfl
          have := kKR_10.1 16 _ _ rfl
          have := kKR_10.1 19 _ _ rfl
          omega
        | succ k10 ih10 =>
          intro i2_10 T_10 M_10 n_10 I_10 h_q0_10 iv0_10 iv1_10 iv2_10 iv3_10 kKR_10 hk10
          refine mv_iload_n d_TrustDeskModel_isWord_28 rfl rfl ?_
          refine mv_aload_n d_TrustDeskModel_isWord_29 rfl rfl ?_
          refine mv_slenK (i := 9) (v := 4) d_TrustDeskModel_isWord_30 lV_TrustDeskModel_214 (by decide) rfl (by decide) (Nat.le_of_ble_eq_true rfl) ?_
          have := mz_hi i2_10
          refine mv_icmp_geZ (tgt := 63) (a := i2_10.toInt) (b := 4) d_TrustDeskModel_isWord_33 (by decide) rfl (by decide) (fun b11 => ?_) (fun b11 => ?_)
          · refine mv_iconst (v := 1) d_TrustDeskModel_isWord_63 (by decide) ?_
            exact mv_iret d_TrustDeskModel_isWord_64 rfl (by decide) ⟨_, I_10, _, rfl, by decide, by decide, kKR_10, (fun _ => by omega)⟩
          · refine mv_aload_n d_TrustDeskModel_isWord_36 rfl rfl ?_
            obtain ⟨a13, q12, t_a13⟩ := tm_atR I_10 h_q0_10 (k := 13) rfl
            refine tr_getK q12 d_TrustDeskModel_isWord_37 f_TrustDeskModel_44_13 ?_
            refine mv_aload_n d_TrustDeskModel_isWord_40 rfl rfl ?_
            obtain ⟨v15, q14⟩ := tm_atI I_10 h_q0_10 (k := 16) rfl
            refine tr_getK q14 d_TrustDeskModel_isWord_41 f_TrustDeskModel_195_13 ?_
            have := kKR_10.f (k := 16) q14 rfl
            have := tm_rv q14
            refine mv_iload_n d_TrustDeskModel_isWord_44 rfl rfl ?_
            refine mv_iadd d_TrustDeskModel_isWord_45 ?_
            have b16 : (v15 + i2_10 : Int32).toInt = (v15.toInt + i2_10.toInt) := mz_add2 rfl rfl (by have := kKR_10.1 15 _ _ rfl; have := kKR_10.1 16 _ _ rfl; have := kKR_10.1 19 _ _ rfl; omega) (by have := kKR_10.1 15 _ _ rfl; have := kKR_10.1 16 _ _ rfl; have := kKR_10.1 19 _ _ rfl; omega)
            refine tr_baldR (o := o0) (k := 13) I_10 q12 t_a13 (by decide) d_TrustDeskModel_isWord_46 (vp_in_iff.mpr (by have := kKR_10.1 15 _ _ rfl; have := kKR_10.1 16 _ _ rfl; have := kKR_10.1 19 _ _ rfl; omega)) (fun v17 e18 => ?_)
            have := kKR_10.a (k := 13) rfl ((v15 + i2_10) : Int32).toNatClampNeg
            refine mv_aload_n d_TrustDeskModel_isWord_47 rfl rfl ?_
            refine mv_iload_n d_TrustDeskModel_isWord_48 rfl rfl ?_
            refine mv_schN (i := 9) (N := 4) d_TrustDeskModel_isWord_49 lV_TrustDeskModel_220 (by decide) rfl rfl (by omega) (by omega) (Nat.le_of_ble_eq_true rfl) (fun v19 => ?_)
            have := mz_hi v17
            have := mz_hi v19
            refine mv_icmp_eqZ (tgt := 57) (a := v17.toInt) (b := v19.toInt) d_TrustDeskModel_isWord_52 (by decide) rfl rfl (fun b20 => ?_) (fun b20 => ?_)
            · refine mv_iinc (v := (i2_10 + 1)) (lv' := [(2, .int (i2_10 + 1)), (0, .ref o0), (1, .ref 19)]) d_TrustDeskModel_isWord_57 rfl rfl (by decide) rfl ?_
              refine mv_goto (tgt := 28) d_TrustDeskModel_isWord_60 (by decide) ?_
              have b21 : (i2_10 + 1).toInt = i2_10.toInt + 1 := mz_addn 1 1 (by decide) (by have := mz_lo i2_10; omega) (by have := mz_hi i2_10; omega)
              exact (ih10 (i2_10 + 1) T_10 M_10 n_10 I_10 h_q0_10 (by have := kKR_10.1 15 _ _ rfl; have := kKR_10.1 16 _ _ rfl; have := kKR_10.1 19 _ _ rfl; first | omega | decide | exact fun h9 => absurd (by decide) h9) (by have := kKR_10.1 15 _ _ rfl; have := kKR_10.1 16 _ _ rfl; have := kKR_10.1 19 _ _ rfl; first | omega | decide | exact fun h9 => absurd (by decide) h9) (by have := kKR_10.1 15 _ _ rfl; have := kKR_10.1 16 _ _ rfl; have := kKR_10.1 19 _ _ rfl; first | omega | decide | exact fun h9 => absurd (by decide) h9) (by have := kKR_10.1 15 _ _ rfl; have := kKR_10.1 16 _ _ rfl; have := kKR_10.1 19 _ _ rfl; first | omega | decide | exact fun h9 => absurd (by decide) h9) kKR_10 (by have := kKR_10.1 15 _ _ rfl; have := kKR_10.1 16 _ _ rfl; have := kKR_10.1 19 _ _ rfl; omega))
            · refine mv_iconst (v := 0) d_TrustDeskModel_isWord_55 (by decide) ?_
              exact mv_iret d_TrustDeskModel_isWord_56 rfl (by decide) ⟨_, I_10, _, rfl, by decide, by decide, kKR_10, (fun h => absurd h (by decide))⟩
      exact mv_less (Nat.zero_le _) (Nat.zero_le _) (L28_10 4294967296 0 T0 M0 n0 I0 h_o0 (by have := yR.1 15 _ _ rfl; have := yR.1 16 _ _ rfl; have := yR.1 19 _ _ rfl; first | omega | decide | exact fun h9 => absurd (by decide) h9) (by have := yR.1 15 _ _ rfl; have := yR.1 16 _ _ rfl; have := yR.1 19 _ _ rfl; first | omega | decide | exact fun h9 => absurd (by decide) h9) (by have := yR.1 15 _ _ rfl; have := yR.1 16 _ _ rfl; have := yR.1 19 _ _ rfl; first | omega | decide | exact fun h9 => absurd (by decide) h9) (by have := yR.1 15 _ _ rfl; have := yR.1 16 _ _ rfl; have := yR.1 19 _ _ rfl; first | omega | decide | exact fun h9 => absurd (by decide) h9) yR (by show (2147483647 - (0 : Int) : Int) < _; decide))
    · refine mv_iconst (v := 0) d_TrustDeskModel_isWord_24 (by decide) ?_
      exact mv_iret d_TrustDeskModel_isWord_25 rfl (by decide) ⟨_, I0, _, rfl, by decide, by decide, yR, (fun h => absurd h (by decide))⟩
theorem d_TrustDeskModel_ruleWord_77 : decode kY_TrustDeskModel_ruleWord.2.1 77 = .ok (.ifCond .eq 7, 3) := by decide +kernel
theorem d_TrustDeskModel_ruleWord_84 : decode kY_TrustDeskModel_ruleWord.2.1 84 = .ok (.aload_n 0, 1) := by decide +kernel
theorem d_TrustDeskModel_ruleWord_85 : decode kY_TrustDeskModel_ruleWord.2.1 85 = .ok (.ldc_w 363, 3) := by decide +kernel
theorem d_TrustDeskModel_ruleWord_88 : decode kY_TrustDeskModel_ruleWord.2.1 88 = .ok (.invokevirtual 244, 3) := by decide +kernel
def w_TrustDeskModel_isWord_s1_20_x : List Nat := []
theorem tc_TrustDeskModel_isWord_s1_20_x {g : mj_G} {l : Launch} {d : Nat} {T0 : tm_H} {M0 : mj_M} {n0 x9 : Nat} {o0 : Nat} (h_o0 : T0 o0 = some (0, 13, 0)) (yR : rI M0 o0) (I0 : tm_I tm_FT (tm_in w_TrustDeskModel_isWord_s1_20_x) x9 T0 M0 n0 T0 M0 n0) : mj_Met g l kY_TrustDeskModel_isWord (d + 4) [.ref o0, .ref 20] M0 n0 0 0 (tm_Q tm_FT (tm_in w_TrustDeskModel_isWord_s1_20_x) x9 T0 M0 n0 (fun r _ M => ∃ v : Int32, r = some (.int v) ∧ 0 ≤ v.toInt ∧ v.toInt ≤ 1 ∧ rI M o0 ∧ (v.toInt = 1 → rv M0 o0 17 = 3))) := by
  refine mj_enter (by decide) (Nat.le_of_ble_eq_true rfl) ?_
  refine mv_aload_n d_TrustDeskModel_isWord_0 rfl rfl ?_
  obtain ⟨v2, q1⟩ := tm_atI I0 h_o0 (k := 17) rfl
  refine tr_getK q1 d_TrustDeskModel_isWord_1 f_TrustDeskModel_198_13 ?_
  have := tm_rv q1
  refine mv_iconst (v := 3) d_TrustDeskModel_isWord_4 (by decide) ?_
  have := mz_hi v2
  refine mv_icmp_neZ (tgt := 24) (a := v2.toInt) (b := 3) d_TrustDeskModel_isWord_5 (by decide) rfl (by decide) (fun b3 => ?_) (fun b3 => ?_)
  · refine mv_iconst (v := 0) d_TrustDeskModel_isWord_24 (by decide) ?_
    exact mv_iret d_TrustDeskModel_isWord_25 rfl (by decide) ⟨_, I0, _, rfl, by decide, by decide, yR, (fun h => absurd h (by decide))⟩
  · refine mv_aload_n d_TrustDeskModel_isWord_8 rfl rfl ?_
    obtain ⟨v5, q4⟩ := tm_atI I0 h_o0 (k := 15) rfl
    refine tr_getK q4 d_TrustDeskModel_isWord_9 f_TrustDeskModel_192_13 ?_
    have := yR.f (k := 15) q4 rfl
    have := tm_rv q4
    refine mv_aload_n d_TrustDeskModel_isWord_12 rfl rfl ?_
    obtain ⟨v7, q6⟩ := tm_atI I0 h_o0 (k := 16) rfl
    refine tr_getK q6 d_TrustDeskModel_isWord_13 f_TrustDeskModel_195_13 ?_
    have := yR.f (k := 16) q6 rfl
    have := tm_rv q6
    refine mv_isub d_TrustDeskModel_isWord_16 ?_
    refine mv_aload_n d_TrustDeskModel_isWord_17 rfl rfl ?_
    refine mv_slenK (i := 10) (v := 3) d_TrustDeskModel_isWord_18 lV_TrustDeskModel_214 (by decide) rfl (by decide) (Nat.le_of_ble_eq_true rfl) ?_
    have b8 : (v5 - v7 : Int32).toInt = (v5.toInt - v7.toInt) := mz_sub2 rfl rfl (by have := yR.1 15 _ _ rfl; have := yR.1 16 _ _ rfl; have := yR.1 19 _ _ rfl; omega) (by have := yR.1 15 _ _ rfl; have := yR.1 16 _ _ rfl; have := yR.1 19 _ _ rfl; omega)
    have := mz_hi (v5 - v7)
    refine mv_icmp_eqZ (tgt := 26) (a := (v5 - v7).toInt) (b := 3) d_TrustDeskModel_isWord_21 (by decide) rfl (by decide) (fun b9 => ?_) (fun b9 => ?_)
    · refine mv_iconst (v := 0) d_TrustDeskModel_isWord_26 (by decide) ?_
      refine mv_istore_n (lv' := [(2, .int 0), (0, .ref o0), (1, .ref 20)]) d_TrustDeskModel_isWord_27 rfl (by decide) rfl ?_
      have L28_10 : ∀ (k : Nat) (i2_10 : Int32) (T_10 : tm_H) (M_10 : mj_M) (n_10 : Nat), tm_I tm_FT (tm_in w_TrustDeskModel_isWord_s1_20_x) x9 T0 M0 n0 T_10 M_10 n_10 → T_10 o0 = some (0, 13, 0) → 0 ≤ i2_10.toInt → rv M_10 o0 15 = rv M0 o0 15 → rv M_10 o0 16 = rv M0 o0 16 → i2_10.toInt ≤ 2147483646 → (rI M_10 o0) → 2147483647 - i2_10.toInt < (k : Int) → mj_V g l kY_TrustDeskModel_isWord (d + 4) 28 [(2, .int i2_10), (0, .ref o0), (1, .ref 20)] [] M_10 n_10 0 0 (tm_Q tm_FT (tm_in w_TrustDeskModel_isWord_s1_20_x) x9 T0 M0 n0 (fun r _ M => ∃ v : Int32, r = some (.int v) ∧ 0 ≤ v.toInt ∧ v.toInt ≤ 1 ∧ rI M o0 ∧ (v.toInt = 1 → rv M0 o0 17 = 3))) := by
        intro k10
        induction k10 with
        | zero =>
          intro i2_10 T_10 M_10 n_10 I_10 h_q0_10 iv0_10 iv1_10 iv2_10 iv3_10 kKR_10 hk10
          have := mz_hi i2_10
          have := kKR_10.1 15 _ _ rfl
          have := kKR_10.1 16 _ _ rfl
          have := kKR_10.1 19 _ _ rfl
          omega
        | succ k10 ih10 =>
          intro i2_10 T_10 M_10 n_10 I_10 h_q0_10 iv0_10 iv1_10 iv2_10 iv3_10 kKR_10 hk10
          refine mv_iload_n d_TrustDeskModel_isWord_28 rfl rfl ?_
          refine mv_aload_n d_TrustDeskModel_isWord_29 rfl rfl ?_
          refine mv_slenK (i := 10) (v := 3) d_TrustDeskModel_isWord_30 lV_TrustDeskModel_214 (by decide) rfl (by decide) (Nat.le_of_ble_eq_true rfl) ?_
          have := mz_hi i2_10
          refine mv_icmp_geZ (tgt := 63) (a := i2_10.toInt) (b := 3) d_TrustDeskModel_isWord_33 (by decide) rfl (by decide) (fun b11 => ?_) (fun b11 => ?_)
          · refine mv_iconst (v := 1) d_TrustDeskModel_isWord_63 (by decide) ?_
            exact mv_iret d_TrustDeskModel_isWord_64 rfl (by decide) ⟨_, I_10, _, rfl, by decide, by decide, kKR_10, (fun _ => by omega)⟩
          · refine mv_aload_n d_TrustDeskModel_isWord_36 rfl rfl ?_
            obtain ⟨a13, q12, t_a13⟩ := tm_atR I_10 h_q0_10 (k := 13) rfl
            refine tr_getK q12 d_TrustDeskModel_isWord_37 f_TrustDeskModel_44_13 ?_
            refine mv_aload_n d_TrustDeskModel_isWord_40 rfl rfl ?_
            obtain ⟨v15, q14⟩ := tm_atI I_10 h_q0_10 (k := 16) rfl
            refine tr_getK q14 d_TrustDeskModel_isWord_41 f_TrustDeskModel_195_13 ?_
            have := kKR_10.f (k := 16) q14 rfl
            have := tm_rv q14
            refine mv_iload_n d_TrustDeskModel_isWord_44 rfl rfl ?_
            refine mv_iadd d_TrustDeskModel_isWord_45 ?_
            have b16 : (v15 + i2_10 : Int32).toInt = (v15.toInt + i2_10.toInt) := mz_add2 rfl rfl (by have := kKR_10.1 15 _ _ rfl; have := kKR_10.1 16 _ _ rfl; have := kKR_10.1 19 _ _ rfl; omega) (by have := kKR_10.1 15 _ _ rfl; have := kKR_10.1 16 _ _ rfl; have := kKR_10.1 19 _ _ rfl; omega)
            refine tr_baldR (o := o0) (k := 13) I_10 q12 t_a13 (by decide) d_TrustDeskModel_isWord_46 (vp_in_iff.mpr (by have := kKR_10.1 15 _ _ rfl; have := kKR_10.1 16 _ _ rfl; have := kKR_10.1 19 _ _ rfl; omega)) (fun v17 e18 => ?_)
            have := kKR_10.a (k := 13) rfl ((v15 + i2_10) : Int32).toNatClampNeg
            refine mv_aload_n d_TrustDeskModel_isWord_47 rfl rfl ?_
            refine mv_iload_n d_TrustDeskModel_isWord_48 rfl rfl ?_
            refine mv_schN (i := 10) (N := 3) d_TrustDeskModel_isWord_49 lV_TrustDeskModel_220 (by decide) rfl rfl (by omega) (by omega) (Nat.le_of_ble_eq_true rfl) (fun v19 => ?_)
            have := mz_hi v17
            have := mz_hi v19
            refine mv_icmp_eqZ (tgt := 57) (a := v17.toInt) (b := v19.toInt) d_TrustDeskModel_isWord_52 (by decide) rfl rfl (fun b20 => ?_) (fun b20 => ?_)
            · refine mv_iinc (v := (i2_10 + 1)) (lv' := [(2, .int (i2_10 + 1)), (0, .ref o0), (1, .ref 20)]) d_TrustDeskModel_isWord_57 rfl rfl (by decide) rfl ?_
              refine mv_goto (tgt := 28) d_TrustDeskModel_isWord_60 (by decide) ?_
              have b21 : (i2_10 + 1).toInt = i2_10.toInt + 1 := mz_addn 1 1 (by decide) (by have := mz_lo i2_10; omega) (by have := mz_hi i2_10; omega)
              exact (ih10 (i2_10 + 1) T_10 M_10 n_10 I_10 h_q0_10 (by have := kKR_10.1 15 _ _ rfl; have := kKR_10.1 16 _ _ rfl; have := kKR_10.1 19 _ _ rfl; first | omega | decide | exact fun h9 => absurd (by decide) h9) (by have := kKR_10.1 15 _ _ rfl; have := kKR_10.1 16 _ _ rfl; have := kKR_10.1 19 _ _ rfl; first | omega | decide | exact fun h9 => absurd (by decide) h9) (by have := kKR_10.1 15 _ _ rfl; have := kKR_10.1 16 _ _ rfl; have := kKR_10.1 19 _ _ rfl; first | omega | decide | exact fun h9 => absurd (by decide) h9) (by have := kKR_10.1 15 _ _ rfl; have := kKR_10.1 16 _ _ rfl; have := kKR_10.1 19 _ _ rfl; first | omega | decide | exact fun h9 => absurd (by decide) h9) kKR_10 (by have := kKR_10.1 15 _ _ rfl; have := kKR_10.1 16 _ _ rfl; have := kKR_10.1 19 _ _ rfl; omega))
            · refine mv_iconst (v := 0) d_TrustDeskModel_isWord_55 (by decide) ?_
              exact mv_iret d_TrustDeskModel_isWord_56 rfl (by decide) ⟨_, I_10, _, rfl, by decide, by decide, kKR_10, (fun h => absurd h (by decide))⟩
      exact mv_less (Nat.zero_le _) (Nat.zero_le _) (L28_10 4294967296 0 T0 M0 n0 I0 h_o0 (by have := yR.1 15 _ _ rfl; have := yR.1 16 _ _ rfl; have := yR.1 19 _ _ rfl; first | omega | decide | exact fun h9 => absurd (by decide) h9) (by have := yR.1 15 _ _ rfl; have := yR.1 16 _ _ rfl; have := yR.1 19 _ _ rfl; first | omega | decide | exact fun h9 => absurd (by decide) h9) (by have := yR.1 15 _ _ rfl; have := yR.1 16 _ _ rfl; have := yR.1 19 _ _ rfl; first | omega | decide | exact fun h9 => absurd (by decide) h9) (by have := yR.1 15 _ _ rfl; have := yR.1 16 _ _ rfl; have := yR.1 19 _ _ rfl; first | omega | decide | exact fun h9 => absurd (by decide) h9) yR (by show (2147483647 - (0 : Int) : Int) < _; decide))
    · refine mv_iconst (v := 0) d_TrustDeskModel_isWord_24 (by decide) ?_
      exact mv_iret d_TrustDeskModel_isWord_25 rfl (by decide) ⟨_, I0, _, rfl, by decide, by decide, yR, (fun h => absurd h (by decide))⟩
theorem d_TrustDeskModel_ruleWord_91 : decode kY_TrustDeskModel_ruleWord.2.1 91 = .ok (.ifCond .eq 8, 3) := by decide +kernel
theorem d_TrustDeskModel_ruleWord_99 : decode kY_TrustDeskModel_ruleWord.2.1 99 = .ok (.iconst (-1), 1) := by decide +kernel
theorem d_TrustDeskModel_ruleWord_100 : decode kY_TrustDeskModel_ruleWord.2.1 100 = .ok (.ireturn, 1) := by decide +kernel
theorem d_TrustDeskModel_ruleWord_94 : decode kY_TrustDeskModel_ruleWord.2.1 94 = .ok (.bipush 6, 2) := by decide +kernel
theorem d_TrustDeskModel_ruleWord_96 : decode kY_TrustDeskModel_ruleWord.2.1 96 = .ok (.goto 4, 3) := by decide +kernel
theorem d_TrustDeskModel_ruleWord_80 : decode kY_TrustDeskModel_ruleWord.2.1 80 = .ok (.iconst 5, 1) := by decide +kernel
theorem d_TrustDeskModel_ruleWord_81 : decode kY_TrustDeskModel_ruleWord.2.1 81 = .ok (.goto 19, 3) := by decide +kernel
theorem d_TrustDeskModel_ruleWord_66 : decode kY_TrustDeskModel_ruleWord.2.1 66 = .ok (.iconst 4, 1) := by decide +kernel
theorem d_TrustDeskModel_ruleWord_67 : decode kY_TrustDeskModel_ruleWord.2.1 67 = .ok (.goto 33, 3) := by decide +kernel
theorem d_TrustDeskModel_ruleWord_52 : decode kY_TrustDeskModel_ruleWord.2.1 52 = .ok (.iconst 3, 1) := by decide +kernel
theorem d_TrustDeskModel_ruleWord_53 : decode kY_TrustDeskModel_ruleWord.2.1 53 = .ok (.goto 47, 3) := by decide +kernel
theorem d_TrustDeskModel_ruleWord_38 : decode kY_TrustDeskModel_ruleWord.2.1 38 = .ok (.iconst 2, 1) := by decide +kernel
theorem d_TrustDeskModel_ruleWord_39 : decode kY_TrustDeskModel_ruleWord.2.1 39 = .ok (.goto 61, 3) := by decide +kernel
theorem d_TrustDeskModel_ruleWord_24 : decode kY_TrustDeskModel_ruleWord.2.1 24 = .ok (.iconst 1, 1) := by decide +kernel
theorem d_TrustDeskModel_ruleWord_25 : decode kY_TrustDeskModel_ruleWord.2.1 25 = .ok (.goto 75, 3) := by decide +kernel
theorem d_TrustDeskModel_ruleWord_10 : decode kY_TrustDeskModel_ruleWord.2.1 10 = .ok (.iconst 0, 1) := by decide +kernel
theorem d_TrustDeskModel_ruleWord_11 : decode kY_TrustDeskModel_ruleWord.2.1 11 = .ok (.goto 89, 3) := by decide +kernel
def w_TrustDeskModel_ruleWord_x : List Nat := []
set_option maxHeartbeats 100000000 in theorem tc_TrustDeskModel_ruleWord_x {g : mj_G} {l : Launch} {d : Nat} {T0 : tm_H} {M0 : mj_M} {n0 x9 : Nat} {o0 : Nat} (h_o0 : T0 o0 = some (0, 13, 0)) (yR : rI M0 o0) (I0 : tm_I tm_FT (tm_in w_TrustDeskModel_ruleWord_x) x9 T0 M0 n0 T0 M0 n0) : mj_Met g l kY_TrustDeskModel_ruleWord (d + 5) [.ref o0] M0 n0 0 0 (tm_Q tm_FT (tm_in w_TrustDeskModel_ruleWord_x) x9 T0 M0 n0 (fun r _ M => ∃ v : Int32, r = some (.int v) ∧ rI M o0 ∧ (-1 ≤ v.toInt ∧ v.toInt ≤ 6))) := by
  refine mj_enter (by decide) (Nat.le_of_ble_eq_true rfl) ?_
  refine mv_aload_n d_TrustDeskModel_ruleWord_0 rfl rfl ?_
  refine mv_ldcSw (id := 14) (tx := "fail") d_TrustDeskModel_ruleWord_1 (List.mem_of_getElem? (i := 4) rfl) ?_
  obtain ⟨_, b7, -⟩ := I0.1 _ _ h_o0
  refine mv_callV (kc' := 0) (ks' := 0) (As := [.ref 14]) (st9 := [.ref 14, .ref o0]) d_TrustDeskModel_ruleWord_4 lV_TrustDeskModel_244 b7 rfl (tc_TrustDeskModel_isWord_s1_14_x (d := d) (x9 := x9) (o0 := o0) h_o0 yR I0.start) rfl (Nat.le_of_ble_eq_true rfl) (Nat.le_of_ble_eq_true rfl) (Nat.le_of_ble_eq_true rfl) (hst := rfl) (fun b1r M2 n3 b1 => ?_)
  obtain ⟨T4, J5, v8, rfl, b9, b10, R11, f12⟩ := b1
  have I6 := I0.call J5 (tm_sub (by decide)) (Or.inl rfl)
  have t13 := J5.up h_o0
  replace f12 := Im.i f12
  have z14 := (rv_c I0 J5 (I0.up h_o0) (k := 17) rfl)
  have := mz_hi v8
  refine mv_if_eqZ (tgt := 14) (a := v8.toInt) d_TrustDeskModel_ruleWord_7 (by decide) rfl (fun b15 => ?_) (fun b15 => ?_)
  · refine mv_aload_n d_TrustDeskModel_ruleWord_14 rfl rfl ?_
    refine mv_ldcSw (id := 15) (tx := "keep") d_TrustDeskModel_ruleWord_15 (List.mem_of_getElem? (i := 5) rfl) ?_
    obtain ⟨_, b22, -⟩ := I6.1 _ _ t13
    refine mv_callV (kc' := 0) (ks' := 0) (As := [.ref 15]) (st9 := [.ref 15, .ref o0]) d_TrustDeskModel_ruleWord_18 lV_TrustDeskModel_244 b22 rfl (tc_TrustDeskModel_isWord_s1_15_x (d := d) (x9 := x9) (o0 := o0) t13 R11 I6.start) rfl (Nat.le_of_ble_eq_true rfl) (Nat.le_of_ble_eq_true rfl) (Nat.le_of_ble_eq_true rfl) (hst := rfl) (fun b16r M17 n18 b16 => ?_)
    obtain ⟨T19, J20, v23, rfl, b24, b25, R26, f27⟩ := b16
    have I21 := I6.call J20 (tm_sub (by decide)) (Or.inl rfl)
    have t28 := J20.up t13
    replace f27 := Im.i f27
    have z29 := (rv_c I6 J20 (I6.up h_o0) (k := 17) rfl).trans z14
    have := mz_hi v23
    refine mv_if_eqZ (tgt := 28) (a := v23.toInt) d_TrustDeskModel_ruleWord_21 (by decide) rfl (fun b30 => ?_) (fun b30 => ?_)
    · refine mv_aload_n d_TrustDeskModel_ruleWord_28 rfl rfl ?_
      refine mv_ldcSw (id := 16) (tx := "days") d_TrustDeskModel_ruleWord_29 (List.mem_of_getElem? (i := 6) rfl) ?_
      obtain ⟨_, b37, -⟩ := I21.1 _ _ t28
      refine mv_callV (kc' := 0) (ks' := 0) (As := [.ref 16]) (st9 := [.ref 16, .ref o0]) d_TrustDeskModel_ruleWord_32 lV_TrustDeskModel_244 b37 rfl (tc_TrustDeskModel_isWord_s1_16_x (d := d) (x9 := x9) (o0 := o0) t28 R26 I21.start) rfl (Nat.le_of_ble_eq_true rfl) (Nat.le_of_ble_eq_true rfl) (Nat.le_of_ble_eq_true rfl) (hst := rfl) (fun b31r M32 n33 b31 => ?_)
      obtain ⟨T34, J35, v38, rfl, b39, b40, R41, f42⟩ := b31
      have I36 := I21.call J35 (tm_sub (by decide)) (Or.inl rfl)
      have t43 := J35.up t28
      replace f42 := Im.i f42
      have z44 := (rv_c I21 J35 (I21.up h_o0) (k := 17) rfl).trans z29
      have := mz_hi v38
      refine mv_if_eqZ (tgt := 42) (a := v38.toInt) d_TrustDeskModel_ruleWord_35 (by decide) rfl (fun b45 => ?_) (fun b45 => ?_)
      · refine mv_aload_n d_TrustDeskModel_ruleWord_42 rfl rfl ?_
        refine mv_ldcSw (id := 17) (tx := "late") d_TrustDeskModel_ruleWord_43 (List.mem_of_getElem? (i := 7) rfl) ?_
        obtain ⟨_, b52, -⟩ := I36.1 _ _ t43
        refine mv_callV (kc' := 0) (ks' := 0) (As := [.ref 17]) (st9 := [.ref 17, .ref o0]) d_TrustDeskModel_ruleWord_46 lV_TrustDeskModel_244 b52 rfl (tc_TrustDeskModel_isWord_s1_17_x (d := d) (x9 := x9) (o0 := o0) t43 R41 I36.start) rfl (Nat.le_of_ble_eq_true rfl) (Nat.le_of_ble_eq_true rfl) (Nat.le_of_ble_eq_true rfl) (hst := rfl) (fun b46r M47 n48 b46 => ?_)
        obtain ⟨T49, J50, v53, rfl, b54, b55, R56, f57⟩ := b46
        have I51 := I36.call J50 (tm_sub (by decide)) (Or.inl rfl)
        have t58 := J50.up t43
        replace f57 := Im.i f57
        have z59 := (rv_c I36 J50 (I36.up h_o0) (k := 17) rfl).trans z44
        have := mz_hi v53
        refine mv_if_eqZ (tgt := 56) (a := v53.toInt) d_TrustDeskModel_ruleWord_49 (by decide) rfl (fun b60 => ?_) (fun b60 => ?_)
        · refine mv_aload_n d_TrustDeskModel_ruleWord_56 rfl rfl ?_
          refine mv_ldcSw (id := 18) (tx := "gain") d_TrustDeskModel_ruleWord_57 (List.mem_of_getElem? (i := 8) rfl) ?_
          obtain ⟨_, b67, -⟩ := I51.1 _ _ t58
          refine mv_callV (kc' := 0) (ks' := 0) (As := [.ref 18]) (st9 := [.ref 18, .ref o0]) d_TrustDeskModel_ruleWord_60 lV_TrustDeskModel_244 b67 rfl (tc_TrustDeskModel_isWord_s1_18_x (d := d) (x9 := x9) (o0 := o0) t58 R56 I51.start) rfl (Nat.le_of_ble_eq_true rfl) (Nat.le_of_ble_eq_true rfl) (Nat.le_of_ble_eq_true rfl) (hst := rfl) (fun b61r M62 n63 b61 => ?_)
          obtain ⟨T64, J65, v68, rfl, b69, b70, R71, f72⟩ := b61
          have I66 := I51.call J65 (tm_sub (by decide)) (Or.inl rfl)
          have t73 := J65.up t58
          replace f72 := Im.i f72
          have z74 := (rv_c I51 J65 (I51.up h_o0) (k := 17) rfl).trans z59
          have := mz_hi v68
          refine mv_if_eqZ (tgt := 70) (a := v68.toInt) d_TrustDeskModel_ruleWord_63 (by decide) rfl (fun b75 => ?_) (fun b75 => ?_)
          · refine mv_aload_n d_TrustDeskModel_ruleWord_70 rfl rfl ?_
            refine mv_ldcSw (id := 19) (tx := "sell") d_TrustDeskModel_ruleWord_71 (List.mem_of_getElem? (i := 9) rfl) ?_
            obtain ⟨_, b82, -⟩ := I66.1 _ _ t73
            refine mv_callV (kc' := 0) (ks' := 0) (As := [.ref 19]) (st9 := [.ref 19, .ref o0]) d_TrustDeskModel_ruleWord_74 lV_TrustDeskModel_244 b82 rfl (tc_TrustDeskModel_isWord_s1_19_x (d := d) (x9 := x9) (o0 := o0) t73 R71 I66.start) rfl (Nat.le_of_ble_eq_true rfl) (Nat.le_of_ble_eq_true rfl) (Nat.le_of_ble_eq_true rfl) (hst := rfl) (fun b76r M77 n78 b76 => ?_)
            obtain ⟨T79, J80, v83, rfl, b84, b85, R86, f87⟩ := b76
            have I81 := I66.call J80 (tm_sub (by decide)) (Or.inl rfl)
            have t88 := J80.up t73
            replace f87 := Im.i f87
            have z89 := (rv_c I66 J80 (I66.up h_o0) (k := 17) rfl).trans z74
            have := mz_hi v83
            refine mv_if_eqZ (tgt := 84) (a := v83.toInt) d_TrustDeskModel_ruleWord_77 (by decide) rfl (fun b90 => ?_) (fun b90 => ?_)
            · refine mv_aload_n d_TrustDeskModel_ruleWord_84 rfl rfl ?_
              refine mv_ldcSw (id := 20) (tx := "bar") d_TrustDeskModel_ruleWord_85 (List.mem_of_getElem? (i := 10) rfl) ?_
              obtain ⟨_, b97, -⟩ := I81.1 _ _ t88
              refine mv_callV (kc' := 0) (ks' := 0) (As := [.ref 20]) (st9 := [.ref 20, .ref o0]) d_TrustDeskModel_ruleWord_88 lV_TrustDeskModel_244 b97 rfl (tc_TrustDeskModel_isWord_s1_20_x (d := d) (x9 := x9) (o0 := o0) t88 R86 I81.start) rfl (Nat.le_of_ble_eq_true rfl) (Nat.le_of_ble_eq_true rfl) (Nat.le_of_ble_eq_true rfl) (hst := rfl) (fun b91r M92 n93 b91 => ?_)
              obtain ⟨T94, J95, v98, rfl, b99, b100, R101, f102⟩ := b91
              have I96 := I81.call J95 (tm_sub (by decide)) (Or.inl rfl)
              have t103 := J95.up t88
              replace f102 := Im.i f102
              have z104 := (rv_c I81 J95 (I81.up h_o0) (k := 17) rfl).trans z89
              have := mz_hi v98
              refine mv_if_eqZ (tgt := 99) (a := v98.toInt) d_TrustDeskModel_ruleWord_91 (by decide) rfl (fun b105 => ?_) (fun b105 => ?_)
              · refine mv_iconst (v := (-1)) d_TrustDeskModel_ruleWord_99 (by decide) ?_
                exact mv_iret d_TrustDeskModel_ruleWord_100 rfl (by first | rfl | decide) ⟨_, I96, _, rfl, R101, (by decide)⟩
              · refine mv_bipush (v := 6) d_TrustDeskModel_ruleWord_94 (by decide) ?_
                refine mv_goto (tgt := 100) d_TrustDeskModel_ruleWord_96 (by decide) ?_
                exact mv_iret d_TrustDeskModel_ruleWord_100 rfl (by first | rfl | decide) ⟨_, I96, _, rfl, R101, (by decide)⟩
            · refine mv_iconst (v := 5) d_TrustDeskModel_ruleWord_80 (by decide) ?_
              refine mv_goto (tgt := 100) d_TrustDeskModel_ruleWord_81 (by decide) ?_
              exact mv_iret d_TrustDeskModel_ruleWord_100 rfl (by first | rfl | decide) ⟨_, I81, _, rfl, R86, (by decide)⟩
          · refine mv_iconst (v := 4) d_TrustDeskModel_ruleWord_66 (by decide) ?_
            refine mv_goto (tgt := 100) d_TrustDeskModel_ruleWord_67 (by decide) ?_
            exact mv_iret d_TrustDeskModel_ruleWord_100 rfl (by first | rfl | decide) ⟨_, I66, _, rfl, R71, (by decide)⟩
        · refine mv_iconst (v := 3) d_TrustDeskModel_ruleWord_52 (by decide) ?_
          refine mv_goto (tgt := 100) d_TrustDeskModel_ruleWord_53 (by decide) ?_
          exact mv_iret d_TrustDeskModel_ruleWord_100 rfl (by first | rfl | decide) ⟨_, I51, _, rfl, R56, (by decide)⟩
      · refine mv_iconst (v := 2) d_TrustDeskModel_ruleWord_38 (by decide) ?_
        refine mv_goto (tgt := 100) d_TrustDeskModel_ruleWord_39 (by decide) ?_
        exact mv_iret d_TrustDeskModel_ruleWord_100 rfl (by first | rfl | decide) ⟨_, I36, _, rfl, R41, (by decide)⟩
    · refine mv_iconst (v := 1) d_TrustDeskModel_ruleWord_24 (by decide) ?_
      refine mv_goto (tgt := 100) d_TrustDeskModel_ruleWord_25 (by decide) ?_
      exact mv_iret d_TrustDeskModel_ruleWord_100 rfl (by first | rfl | decide) ⟨_, I21, _, rfl, R26, (by decide)⟩
  · refine mv_iconst (v := 0) d_TrustDeskModel_ruleWord_10 (by decide) ?_
    refine mv_goto (tgt := 100) d_TrustDeskModel_ruleWord_11 (by decide) ?_
    exact mv_iret d_TrustDeskModel_ruleWord_100 rfl (by first | rfl | decide) ⟨_, I6, _, rfl, R11, (by decide)⟩
theorem lV_TrustDeskModel_365 : mj_lV "TrustDeskModel" 365 kY_TrustDeskModel_ruleWord 0 := ⟨⟨(mj_in1 (List.mem_of_getElem? (i := 1670) (by decide +kernel)) rfl), (mj_in1 (List.mem_of_getElem? (i := 10) (by decide +kernel)) rfl), (mj_in1 (List.mem_of_getElem? (i := 1673) (by decide +kernel)) rfl), by decide, rfl, by decide⟩, (mj_in1 (List.mem_of_getElem? (i := 1672) (by decide +kernel)) rfl), (mj_in (List.mem_append_left _ (List.mem_of_getElem? (i := 85) (by decide +kernel))) rfl)⟩
theorem d_TrustDeskModel_readRule_4 : decode kY_TrustDeskModel_readRule.2.1 4 = .ok (.istore_n 1, 1) := by decide +kernel
theorem d_TrustDeskModel_readRule_5 : decode kY_TrustDeskModel_readRule.2.1 5 = .ok (.iload_n 1, 1) := by decide +kernel
theorem d_TrustDeskModel_readRule_6 : decode kY_TrustDeskModel_readRule.2.1 6 = .ok (.iconst (-1), 1) := by decide +kernel
theorem d_TrustDeskModel_readRule_7 : decode kY_TrustDeskModel_readRule.2.1 7 = .ok (.if_icmp .ne 11, 3) := by decide +kernel
theorem d_TrustDeskModel_readRule_18 : decode kY_TrustDeskModel_readRule.2.1 18 = .ok (.aload_n 0, 1) := by decide +kernel
theorem d_TrustDeskModel_readRule_19 : decode kY_TrustDeskModel_readRule.2.1 19 = .ok (.getfield 23, 3) := by decide +kernel
theorem d_TrustDeskModel_readRule_22 : decode kY_TrustDeskModel_readRule.2.1 22 = .ok (.bipush 44, 2) := by decide +kernel
theorem d_TrustDeskModel_readRule_24 : decode kY_TrustDeskModel_readRule.2.1 24 = .ok (.iaload, 1) := by decide +kernel
theorem d_TrustDeskModel_readRule_25 : decode kY_TrustDeskModel_readRule.2.1 25 = .ok (.bipush 20, 2) := by decide +kernel
theorem d_TrustDeskModel_readRule_27 : decode kY_TrustDeskModel_readRule.2.1 27 = .ok (.if_icmp .ne 8, 3) := by decide +kernel
theorem d_TrustDeskModel_readRule_35 : decode kY_TrustDeskModel_readRule.2.1 35 = .ok (.aload_n 0, 1) := by decide +kernel
theorem d_TrustDeskModel_readRule_36 : decode kY_TrustDeskModel_readRule.2.1 36 = .ok (.invokevirtual 230, 3) := by decide +kernel
theorem d_TrustDeskModel_readRule_39 : decode kY_TrustDeskModel_readRule.2.1 39 = .ok (.ifCond .ne 4, 3) := by decide +kernel
theorem d_TrustDeskModel_readRule_42 : decode kY_TrustDeskModel_readRule.2.1 42 = .ok (.return_, 1) := by decide +kernel
theorem d_TrustDeskModel_readRule_43 : decode kY_TrustDeskModel_readRule.2.1 43 = .ok (.aload_n 0, 1) := by decide +kernel
theorem d_TrustDeskModel_readRule_44 : decode kY_TrustDeskModel_readRule.2.1 44 = .ok (.iload_n 1, 1) := by decide +kernel
theorem d_TrustDeskModel_readRule_45 : decode kY_TrustDeskModel_readRule.2.1 45 = .ok (.invokevirtual 342, 3) := by decide +kernel
theorem d_TrustDeskModel_readRule_48 : decode kY_TrustDeskModel_readRule.2.1 48 = .ok (.istore_n 2, 1) := by decide +kernel
theorem d_TrustDeskModel_readRule_49 : decode kY_TrustDeskModel_readRule.2.1 49 = .ok (.iload_n 1, 1) := by decide +kernel
theorem d_TrustDeskModel_readRule_50 : decode kY_TrustDeskModel_readRule.2.1 50 = .ok (.bipush 6, 2) := by decide +kernel
theorem d_TrustDeskModel_readRule_52 : decode kY_TrustDeskModel_readRule.2.1 52 = .ok (.if_icmp .ne 119, 3) := by decide +kernel
theorem d_TrustDeskModel_readRule_171 : decode kY_TrustDeskModel_readRule.2.1 171 = .ok (.iload_n 1, 1) := by decide +kernel
theorem d_TrustDeskModel_readRule_172 : decode kY_TrustDeskModel_readRule.2.1 172 = .ok (.iconst 1, 1) := by decide +kernel
theorem d_TrustDeskModel_readRule_173 : decode kY_TrustDeskModel_readRule.2.1 173 = .ok (.if_icmp .eq 8, 3) := by decide +kernel
theorem d_TrustDeskModel_readRule_181 : decode kY_TrustDeskModel_readRule.2.1 181 = .ok (.iconst 0, 1) := by decide +kernel
theorem d_TrustDeskModel_readRule_182 : decode kY_TrustDeskModel_readRule.2.1 182 = .ok (.goto 4, 3) := by decide +kernel
theorem d_TrustDeskModel_readRule_186 : decode kY_TrustDeskModel_readRule.2.1 186 = .ok (.istore_n 3, 1) := by decide +kernel
theorem d_TrustDeskModel_readRule_187 : decode kY_TrustDeskModel_readRule.2.1 187 = .ok (.aload_n 0, 1) := by decide +kernel
theorem d_TrustDeskModel_readRule_188 : decode kY_TrustDeskModel_readRule.2.1 188 = .ok (.getfield 29, 3) := by decide +kernel
theorem d_TrustDeskModel_readRule_191 : decode kY_TrustDeskModel_readRule.2.1 191 = .ok (.iload_n 2, 1) := by decide +kernel
theorem d_TrustDeskModel_readRule_192 : decode kY_TrustDeskModel_readRule.2.1 192 = .ok (.aload_n 0, 1) := by decide +kernel
theorem d_TrustDeskModel_readRule_193 : decode kY_TrustDeskModel_readRule.2.1 193 = .ok (.iload_n 3, 1) := by decide +kernel
theorem d_TrustDeskModel_readRule_194 : decode kY_TrustDeskModel_readRule.2.1 194 = .ok (.iload_n 1, 1) := by decide +kernel
theorem d_TrustDeskModel_readRule_195 : decode kY_TrustDeskModel_readRule.2.1 195 = .ok (.ifCond .ne 8, 3) := by decide +kernel
theorem d_TrustDeskModel_readRule_203 : decode kY_TrustDeskModel_readRule.2.1 203 = .ok (.iload_n 1, 1) := by decide +kernel
theorem d_TrustDeskModel_readRule_204 : decode kY_TrustDeskModel_readRule.2.1 204 = .ok (.iconst 1, 1) := by decide +kernel
theorem d_TrustDeskModel_readRule_205 : decode kY_TrustDeskModel_readRule.2.1 205 = .ok (.if_icmp .ne 8, 3) := by decide +kernel
theorem d_TrustDeskModel_readRule_208 : decode kY_TrustDeskModel_readRule.2.1 208 = .ok (.bipush 8, 2) := by decide +kernel
theorem d_TrustDeskModel_readRule_210 : decode kY_TrustDeskModel_readRule.2.1 210 = .ok (.goto 37, 3) := by decide +kernel
theorem d_TrustDeskModel_readRule_247 : decode kY_TrustDeskModel_readRule.2.1 247 = .ok (.invokevirtual 317, 3) := by decide +kernel
theorem d_TrustDeskModel_readRule_250 : decode kY_TrustDeskModel_readRule.2.1 250 = .ok (.iastore, 1) := by decide +kernel
theorem d_TrustDeskModel_readRule_251 : decode kY_TrustDeskModel_readRule.2.1 251 = .ok (.aload_n 0, 1) := by decide +kernel
theorem d_TrustDeskModel_readRule_252 : decode kY_TrustDeskModel_readRule.2.1 252 = .ok (.bipush 59, 2) := by decide +kernel
theorem d_TrustDeskModel_readRule_254 : decode kY_TrustDeskModel_readRule.2.1 254 = .ok (.invokevirtual 291, 3) := by decide +kernel
theorem d_TrustDeskModel_readRule_257 : decode kY_TrustDeskModel_readRule.2.1 257 = .ok (.aload_n 0, 1) := by decide +kernel
theorem d_TrustDeskModel_readRule_258 : decode kY_TrustDeskModel_readRule.2.1 258 = .ok (.getfield 41, 3) := by decide +kernel
theorem d_TrustDeskModel_readRule_261 : decode kY_TrustDeskModel_readRule.2.1 261 = .ok (.iload_n 2, 1) := by decide +kernel
theorem d_TrustDeskModel_readRule_262 : decode kY_TrustDeskModel_readRule.2.1 262 = .ok (.aload_n 0, 1) := by decide +kernel
theorem d_TrustDeskModel_readRule_263 : decode kY_TrustDeskModel_readRule.2.1 263 = .ok (.getfield 20, 3) := by decide +kernel
theorem d_TrustDeskModel_readRule_266 : decode kY_TrustDeskModel_readRule.2.1 266 = .ok (.bipush 44, 2) := by decide +kernel
theorem d_TrustDeskModel_readRule_268 : decode kY_TrustDeskModel_readRule.2.1 268 = .ok (.iaload, 1) := by decide +kernel
theorem d_TrustDeskModel_readRule_269 : decode kY_TrustDeskModel_readRule.2.1 269 = .ok (.iastore, 1) := by decide +kernel
theorem d_TrustDeskModel_readRule_270 : decode kY_TrustDeskModel_readRule.2.1 270 = .ok (.return_, 1) := by decide +kernel
theorem d_TrustDeskModel_readRule_176 : decode kY_TrustDeskModel_readRule.2.1 176 = .ok (.iload_n 1, 1) := by decide +kernel
theorem d_TrustDeskModel_readRule_177 : decode kY_TrustDeskModel_readRule.2.1 177 = .ok (.iconst 4, 1) := by decide +kernel
theorem d_TrustDeskModel_readRule_178 : decode kY_TrustDeskModel_readRule.2.1 178 = .ok (.if_icmp .ne 7, 3) := by decide +kernel
theorem d_TrustDeskModel_readRule_185 : decode kY_TrustDeskModel_readRule.2.1 185 = .ok (.iconst 1, 1) := by decide +kernel
theorem d_TrustDeskModel_readRule_213 : decode kY_TrustDeskModel_readRule.2.1 213 = .ok (.iload_n 1, 1) := by decide +kernel
theorem d_TrustDeskModel_readRule_214 : decode kY_TrustDeskModel_readRule.2.1 214 = .ok (.iconst 2, 1) := by decide +kernel
theorem d_TrustDeskModel_readRule_215 : decode kY_TrustDeskModel_readRule.2.1 215 = .ok (.if_icmp .ne 9, 3) := by decide +kernel
theorem d_TrustDeskModel_readRule_224 : decode kY_TrustDeskModel_readRule.2.1 224 = .ok (.iload_n 1, 1) := by decide +kernel
theorem d_TrustDeskModel_readRule_225 : decode kY_TrustDeskModel_readRule.2.1 225 = .ok (.iconst 3, 1) := by decide +kernel
theorem d_TrustDeskModel_readRule_226 : decode kY_TrustDeskModel_readRule.2.1 226 = .ok (.if_icmp .ne 9, 3) := by decide +kernel
theorem d_TrustDeskModel_readRule_235 : decode kY_TrustDeskModel_readRule.2.1 235 = .ok (.iload_n 1, 1) := by decide +kernel
theorem d_TrustDeskModel_readRule_236 : decode kY_TrustDeskModel_readRule.2.1 236 = .ok (.iconst 4, 1) := by decide +kernel
theorem d_TrustDeskModel_readRule_237 : decode kY_TrustDeskModel_readRule.2.1 237 = .ok (.if_icmp .ne 8, 3) := by decide +kernel
theorem d_TrustDeskModel_readRule_245 : decode kY_TrustDeskModel_readRule.2.1 245 = .ok (.bipush 40, 2) := by decide +kernel
theorem d_TrustDeskModel_readRule_240 : decode kY_TrustDeskModel_readRule.2.1 240 = .ok (.bipush 20, 2) := by decide +kernel
theorem d_TrustDeskModel_readRule_242 : decode kY_TrustDeskModel_readRule.2.1 242 = .ok (.goto 5, 3) := by decide +kernel
theorem d_TrustDeskModel_readRule_229 : decode kY_TrustDeskModel_readRule.2.1 229 = .ok (.sipush 720, 3) := by decide +kernel
theorem d_TrustDeskModel_readRule_232 : decode kY_TrustDeskModel_readRule.2.1 232 = .ok (.goto 15, 3) := by decide +kernel
theorem d_TrustDeskModel_readRule_218 : decode kY_TrustDeskModel_readRule.2.1 218 = .ok (.sipush 360, 3) := by decide +kernel
theorem d_TrustDeskModel_readRule_221 : decode kY_TrustDeskModel_readRule.2.1 221 = .ok (.goto 26, 3) := by decide +kernel
theorem d_TrustDeskModel_readRule_198 : decode kY_TrustDeskModel_readRule.2.1 198 = .ok (.bipush 50, 2) := by decide +kernel
theorem d_TrustDeskModel_readRule_200 : decode kY_TrustDeskModel_readRule.2.1 200 = .ok (.goto 47, 3) := by decide +kernel
theorem d_TrustDeskModel_readRule_55 : decode kY_TrustDeskModel_readRule.2.1 55 = .ok (.aload_n 0, 1) := by decide +kernel
theorem d_TrustDeskModel_readRule_56 : decode kY_TrustDeskModel_readRule.2.1 56 = .ok (.getfield 29, 3) := by decide +kernel
theorem d_TrustDeskModel_readRule_59 : decode kY_TrustDeskModel_readRule.2.1 59 = .ok (.iload_n 2, 1) := by decide +kernel
theorem d_TrustDeskModel_readRule_60 : decode kY_TrustDeskModel_readRule.2.1 60 = .ok (.aload_n 0, 1) := by decide +kernel
theorem d_TrustDeskModel_readRule_61 : decode kY_TrustDeskModel_readRule.2.1 61 = .ok (.ldc_w 368, 3) := by decide +kernel
theorem d_TrustDeskModel_readRule_64 : decode kY_TrustDeskModel_readRule.2.1 64 = .ok (.invokevirtual 244, 3) := by decide +kernel
def w_TrustDeskModel_isWord_s1_21_x : List Nat := []
theorem tc_TrustDeskModel_isWord_s1_21_x {g : mj_G} {l : Launch} {d : Nat} {T0 : tm_H} {M0 : mj_M} {n0 x9 : Nat} {o0 : Nat} (h_o0 : T0 o0 = some (0, 13, 0)) (yR : rI M0 o0) (I0 : tm_I tm_FT (tm_in w_TrustDeskModel_isWord_s1_21_x) x9 T0 M0 n0 T0 M0 n0) : mj_Met g l kY_TrustDeskModel_isWord (d + 4) [.ref o0, .ref 21] M0 n0 0 0 (tm_Q tm_FT (tm_in w_TrustDeskModel_isWord_s1_21_x) x9 T0 M0 n0 (fun r _ M => ∃ v : Int32, r = some (.int v) ∧ 0 ≤ v.toInt ∧ v.toInt ≤ 1 ∧ rI M o0 ∧ (v.toInt = 1 → rv M0 o0 17 = 3))) := by
  refine mj_enter (by decide) (Nat.le_of_ble_eq_true rfl) ?_
  refine mv_aload_n d_TrustDeskModel_isWord_0 rfl rfl ?_
  obtain ⟨v2, q1⟩ := tm_atI I0 h_o0 (k := 17) rfl
  refine tr_getK q1 d_TrustDeskModel_isWord_1 f_TrustDeskModel_198_13 ?_
  have := tm_rv q1
  refine mv_iconst (v := 3) d_TrustDeskModel_isWord_4 (by decide) ?_
  have := mz_hi v2
  refine mv_icmp_neZ (tgt := 24) (a := v2.toInt) (b := 3) d_TrustDeskModel_isWord_5 (by decide) rfl (by decide) (fun b3 => ?_) (fun b3 => ?_)
  · refine mv_iconst (v := 0) d_TrustDeskModel_isWord_24 (by decide) ?_
    exact mv_iret d_TrustDeskModel_isWord_25 rfl (by decide) ⟨_, I0, _, rfl, by decide, by decide, yR, (fun h => absurd h (by decide))⟩
  · refine mv_aload_n d_TrustDeskModel_isWord_8 rfl rfl ?_
    obtain ⟨v5, q4⟩ := tm_atI I0 h_o0 (k := 15) rfl
    refine tr_getK q4 d_TrustDeskModel_isWord_9 f_TrustDeskModel_192_13 ?_
    have := yR.f (k := 15) q4 rfl
    have := tm_rv q4
    refine mv_aload_n d_TrustDeskModel_isWord_12 rfl rfl ?_
    obtain ⟨v7, q6⟩ := tm_atI I0 h_o0 (k := 16) rfl
    refine tr_getK q6 d_TrustDeskModel_isWord_13 f_TrustDeskModel_195_13 ?_
    have := yR.f (k := 16) q6 rfl
    have := tm_rv q6
    refine mv_isub d_TrustDeskModel_isWord_16 ?_
    refine mv_aload_n d_TrustDeskModel_isWord_17 rfl rfl ?_
    refine mv_slenK (i := 11) (v := 4) d_TrustDeskModel_isWord_18 lV_TrustDeskModel_214 (by decide) rfl (by decide) (Nat.le_of_ble_eq_true rfl) ?_
    have b8 : (v5 - v7 : Int32).toInt = (v5.toInt - v7.toInt) := mz_sub2 rfl rfl (by have := yR.1 15 _ _ rfl; have := yR.1 16 _ _ rfl; have := yR.1 19 _ _ rfl; omega) (by have := yR.1 15 _ _ rfl; have := yR.1 16 _ _ rfl; have := yR.1 19 _ _ rfl; omega)
    have := mz_hi (v5 - v7)
    refine mv_icmp_eqZ (tgt := 26) (a := (v5 - v7).toInt) (b := 4) d_TrustDeskModel_isWord_21 (by decide) rfl (by decide) (fun b9 => ?_) (fun b9 => ?_)
    · refine mv_iconst (v := 0) d_TrustDeskModel_isWord_26 (by decide) ?_
      refine mv_istore_n (lv' := [(2, .int 0), (0, .ref o0), (1, .ref 21)]) d_TrustDeskModel_isWord_27 rfl (by decide) rfl ?_
      have L28_10 : ∀ (k : Nat) (i2_10 : Int32) (T_10 : tm_H) (M_10 : mj_M) (n_10 : Nat), tm_I tm_FT (tm_in w_TrustDeskModel_isWord_s1_21_x) x9 T0 M0 n0 T_10 M_10 n_10 → T_10 o0 = some (0, 13, 0) → 0 ≤ i2_10.toInt → rv M_10 o0 15 = rv M0 o0 15 → rv M_10 o0 16 = rv M0 o0 16 → i2_10.toInt ≤ 2147483646 → (rI M_10 o0) → 2147483647 - i2_10.toInt < (k : Int) → mj_V g l kY_TrustDeskModel_isWord (d + 4) 28 [(2, .int i2_10), (0, .ref o0), (1, .ref 21)] [] M_10 n_10 0 0 (tm_Q tm_FT (tm_in w_TrustDeskModel_isWord_s1_21_x) x9 T0 M0 n0 (fun r _ M => ∃ v : Int32, r = some (.int v) ∧ 0 ≤ v.toInt ∧ v.toInt ≤ 1 ∧ rI M o0 ∧ (v.toInt = 1 → rv M0 o0 17 = 3))) := by
        intro k10
        induction k10 with
        | zero =>
          intro i2_10 T_10 M_10 n_10 I_10 h_q0_10 iv0_10 iv1_10 iv2_10 iv3_10 kKR_10 hk10
          have := mz_hi i2_10
          have := kKR_10.1 15 _ _ rfl
          have := kKR_10.1 16 _ _ rfl
          have := kKR_10.1 19 _ _ rfl
          omega
        | succ k10 ih10 =>
          intro i2_10 T_10 M_10 n_10 I_10 h_q0_10 iv0_10 iv1_10 iv2_10 iv3_10 kKR_10 hk10
          refine mv_iload_n d_TrustDeskModel_isWord_28 rfl rfl ?_
          refine mv_aload_n d_TrustDeskModel_isWord_29 rfl rfl ?_
          refine mv_slenK (i := 11) (v := 4) d_TrustDeskModel_isWord_30 lV_TrustDeskModel_214 (by decide) rfl (by decide) (Nat.le_of_ble_eq_true rfl) ?_
          have := mz_hi i2_10
          refine mv_icmp_geZ (tgt := 63) (a := i2_10.toInt) (b := 4) d_TrustDeskModel_isWord_33 (by decide) rfl (by decide) (fun b11 => ?_) (fun b11 => ?_)
          · refine mv_iconst (v := 1) d_TrustDeskModel_isWord_63 (by decide) ?_
            exact mv_iret d_TrustDeskModel_isWord_64 rfl (by decide) ⟨_, I_10, _, rfl, by decide, by decide, kKR_10, (fun _ => by omega)⟩
          · refine mv_aload_n d_TrustDeskModel_isWord_36 rfl rfl ?_
            obtain ⟨a13, q12, t_a13⟩ := tm_atR I_10 h_q0_10 (k := 13) rfl
            refine tr_getK q12 d_TrustDeskModel_isWord_37 f_TrustDeskModel_44_13 ?_
            refine mv_aload_n d_TrustDeskModel_isWord_40 rfl rfl ?_
            obtain ⟨v15, q14⟩ := tm_atI I_10 h_q0_10 (k := 16) rfl
            refine tr_getK q14 d_TrustDeskModel_isWord_41 f_TrustDeskModel_195_13 ?_
            have := kKR_10.f (k := 16) q14 rfl
            have := tm_rv q14
            refine mv_iload_n d_TrustDeskModel_isWord_44 rfl rfl ?_
            refine mv_iadd d_TrustDeskModel_isWord_45 ?_
            have b16 : (v15 + i2_10 : Int32).toInt = (v15.toInt + i2_10.toInt) := mz_add2 rfl rfl (by have := kKR_10.1 15 _ _ rfl; have := kKR_10.1 16 _ _ rfl; have := kKR_10.1 19 _ _ rfl; omega) (by have := kKR_10.1 15 _ _ rfl; have := kKR_10.1 16 _ _ rfl; have := kKR_10.1 19 _ _ rfl; omega)
            refine tr_baldR (o := o0) (k := 13) I_10 q12 t_a13 (by decide) d_TrustDeskModel_isWord_46 (vp_in_iff.mpr (by have := kKR_10.1 15 _ _ rfl; have := kKR_10.1 16 _ _ rfl; have := kKR_10.1 19 _ _ rfl; omega)) (fun v17 e18 => ?_)
            have := kKR_10.a (k := 13) rfl ((v15 + i2_10) : Int32).toNatClampNeg
            refine mv_aload_n d_TrustDeskModel_isWord_47 rfl rfl ?_
            refine mv_iload_n d_TrustDeskModel_isWord_48 rfl rfl ?_
            refine mv_schN (i := 11) (N := 4) d_TrustDeskModel_isWord_49 lV_TrustDeskModel_220 (by decide) rfl rfl (by omega) (by omega) (Nat.le_of_ble_eq_true rfl) (fun v19 => ?_)
            have := mz_hi v17
            have := mz_hi v19
            refine mv_icmp_eqZ (tgt := 57) (a := v17.toInt) (b := v19.toInt) d_TrustDeskModel_isWord_52 (by decide) rfl rfl (fun b20 => ?_) (fun b20 => ?_)
            · refine mv_iinc (v := (i2_10 + 1)) (lv' := [(2, .int (i2_10 + 1)), (0, .ref o0), (1, .ref 21)]) d_TrustDeskModel_isWord_57 rfl rfl (by decide) rfl ?_
              refine mv_goto (tgt := 28) d_TrustDeskModel_isWord_60 (by decide) ?_
              have b21 : (i2_10 + 1).toInt = i2_10.toInt + 1 := mz_addn 1 1 (by decide) (by have := mz_lo i2_10; omega) (by have := mz_hi i2_10; omega)
              exact (ih10 (i2_10 + 1) T_10 M_10 n_10 I_10 h_q0_10 (by have := kKR_10.1 15 _ _ rfl; have := kKR_10.1 16 _ _ rfl; have := kKR_10.1 19 _ _ rfl; first | omega | decide | exact fun h9 => absurd (by decide) h9) (by have := kKR_10.1 15 _ _ rfl; have := kKR_10.1 16 _ _ rfl; have := kKR_10.1 19 _ _ rfl; first | omega | decide | exact fun h9 => absurd (by decide) h9) (by have := kKR_10.1 15 _ _ rfl; have := kKR_10.1 16 _ _ rfl; have := kKR_10.1 19 _ _ rfl; first | omega | decide | exact fun h9 => absurd (by decide) h9) (by have := kKR_10.1 15 _ _ rfl; have := kKR_10.1 16 _ _ rfl; have := kKR_10.1 19 _ _ rfl; first | omega | decide | exact fun h9 => absurd (by decide) h9) kKR_10 (by have := kKR_10.1 15 _ _ rfl; have := kKR_10.1 16 _ _ rfl; have := kKR_10.1 19 _ _ rfl; omega))
            · refine mv_iconst (v := 0) d_TrustDeskModel_isWord_55 (by decide) ?_
              exact mv_iret d_TrustDeskModel_isWord_56 rfl (by decide) ⟨_, I_10, _, rfl, by decide, by decide, kKR_10, (fun h => absurd h (by decide))⟩
      exact mv_less (Nat.zero_le _) (Nat.zero_le _) (L28_10 4294967296 0 T0 M0 n0 I0 h_o0 (by have := yR.1 15 _ _ rfl; have := yR.1 16 _ _ rfl; have := yR.1 19 _ _ rfl; first | omega | decide | exact fun h9 => absurd (by decide) h9) (by have := yR.1 15 _ _ rfl; have := yR.1 16 _ _ rfl; have := yR.1 19 _ _ rfl; first | omega | decide | exact fun h9 => absurd (by decide) h9) (by have := yR.1 15 _ _ rfl; have := yR.1 16 _ _ rfl; have := yR.1 19 _ _ rfl; first | omega | decide | exact fun h9 => absurd (by decide) h9) (by have := yR.1 15 _ _ rfl; have := yR.1 16 _ _ rfl; have := yR.1 19 _ _ rfl; first | omega | decide | exact fun h9 => absurd (by decide) h9) yR (by show (2147483647 - (0 : Int) : Int) < _; decide))
    · refine mv_iconst (v := 0) d_TrustDeskModel_isWord_24 (by decide) ?_
      exact mv_iret d_TrustDeskModel_isWord_25 rfl (by decide) ⟨_, I0, _, rfl, by decide, by decide, yR, (fun h => absurd h (by decide))⟩
theorem d_TrustDeskModel_readRule_67 : decode kY_TrustDeskModel_readRule.2.1 67 = .ok (.ifCond .eq 7, 3) := by decide +kernel
theorem d_TrustDeskModel_readRule_74 : decode kY_TrustDeskModel_readRule.2.1 74 = .ok (.aload_n 0, 1) := by decide +kernel
theorem d_TrustDeskModel_readRule_75 : decode kY_TrustDeskModel_readRule.2.1 75 = .ok (.ldc_w 370, 3) := by decide +kernel
theorem d_TrustDeskModel_readRule_78 : decode kY_TrustDeskModel_readRule.2.1 78 = .ok (.invokevirtual 244, 3) := by decide +kernel
def w_TrustDeskModel_isWord_s1_22_x : List Nat := []
theorem tc_TrustDeskModel_isWord_s1_22_x {g : mj_G} {l : Launch} {d : Nat} {T0 : tm_H} {M0 : mj_M} {n0 x9 : Nat} {o0 : Nat} (h_o0 : T0 o0 = some (0, 13, 0)) (yR : rI M0 o0) (I0 : tm_I tm_FT (tm_in w_TrustDeskModel_isWord_s1_22_x) x9 T0 M0 n0 T0 M0 n0) : mj_Met g l kY_TrustDeskModel_isWord (d + 4) [.ref o0, .ref 22] M0 n0 0 0 (tm_Q tm_FT (tm_in w_TrustDeskModel_isWord_s1_22_x) x9 T0 M0 n0 (fun r _ M => ∃ v : Int32, r = some (.int v) ∧ 0 ≤ v.toInt ∧ v.toInt ≤ 1 ∧ rI M o0 ∧ (v.toInt = 1 → rv M0 o0 17 = 3))) := by
  refine mj_enter (by decide) (Nat.le_of_ble_eq_true rfl) ?_
  refine mv_aload_n d_TrustDeskModel_isWord_0 rfl rfl ?_
  obtain ⟨v2, q1⟩ := tm_atI I0 h_o0 (k := 17) rfl
  refine tr_getK q1 d_TrustDeskModel_isWord_1 f_TrustDeskModel_198_13 ?_
  have := tm_rv q1
  refine mv_iconst (v := 3) d_TrustDeskModel_isWord_4 (by decide) ?_
  have := mz_hi v2
  refine mv_icmp_neZ (tgt := 24) (a := v2.toInt) (b := 3) d_TrustDeskModel_isWord_5 (by decide) rfl (by decide) (fun b3 => ?_) (fun b3 => ?_)
  · refine mv_iconst (v := 0) d_TrustDeskModel_isWord_24 (by decide) ?_
    exact mv_iret d_TrustDeskModel_isWord_25 rfl (by decide) ⟨_, I0, _, rfl, by decide, by decide, yR, (fun h => absurd h (by decide))⟩
  · refine mv_aload_n d_TrustDeskModel_isWord_8 rfl rfl ?_
    obtain ⟨v5, q4⟩ := tm_atI I0 h_o0 (k := 15) rfl
    refine tr_getK q4 d_TrustDeskModel_isWord_9 f_TrustDeskModel_192_13 ?_
    have := yR.f (k := 15) q4 rfl
    have := tm_rv q4
    refine mv_aload_n d_TrustDeskModel_isWord_12 rfl rfl ?_
    obtain ⟨v7, q6⟩ := tm_atI I0 h_o0 (k := 16) rfl
    refine tr_getK q6 d_TrustDeskModel_isWord_13 f_TrustDeskModel_195_13 ?_
    have := yR.f (k := 16) q6 rfl
    have := tm_rv q6
    refine mv_isub d_TrustDeskModel_isWord_16 ?_
    refine mv_aload_n d_TrustDeskModel_isWord_17 rfl rfl ?_
    refine mv_slenK (i := 12) (v := 4) d_TrustDeskModel_isWord_18 lV_TrustDeskModel_214 (by decide) rfl (by decide) (Nat.le_of_ble_eq_true rfl) ?_
    have b8 : (v5 - v7 : Int32).toInt = (v5.toInt - v7.toInt) := mz_sub2 rfl rfl (by have := yR.1 15 _ _ rfl; have := yR.1 16 _ _ rfl; have := yR.1 19 _ _ rfl; omega) (by have := yR.1 15 _ _ rfl; have := yR.1 16 _ _ rfl; have := yR.1 19 _ _ rfl; omega)
    have := mz_hi (v5 - v7)
    refine mv_icmp_eqZ (tgt := 26) (a := (v5 - v7).toInt) (b := 4) d_TrustDeskModel_isWord_21 (by decide) rfl (by decide) (fun b9 => ?_) (fun b9 => ?_)
    · refine mv_iconst (v := 0) d_TrustDeskModel_isWord_26 (by decide) ?_
      refine mv_istore_n (lv' := [(2, .int 0), (0, .ref o0), (1, .ref 22)]) d_TrustDeskModel_isWord_27 rfl (by decide) rfl ?_
      have L28_10 : ∀ (k : Nat) (i2_10 : Int32) (T_10 : tm_H) (M_10 : mj_M) (n_10 : Nat), tm_I tm_FT (tm_in w_TrustDeskModel_isWord_s1_22_x) x9 T0 M0 n0 T_10 M_10 n_10 → T_10 o0 = some (0, 13, 0) → 0 ≤ i2_10.toInt → rv M_10 o0 15 = rv M0 o0 15 → rv M_10 o0 16 = rv M0 o0 16 → i2_10.toInt ≤ 2147483646 → (rI M_10 o0) → 2147483647 - i2_10.toInt < (k : Int) → mj_V g l kY_TrustDeskModel_isWord (d + 4) 28 [(2, .int i2_10), (0, .ref o0), (1, .ref 22)] [] M_10 n_10 0 0 (tm_Q tm_FT (tm_in w_TrustDeskModel_isWord_s1_22_x) x9 T0 M0 n0 (fun r _ M => ∃ v : Int32, r = some (.int v) ∧ 0 ≤ v.toInt ∧ v.toInt ≤ 1 ∧ rI M o0 ∧ (v.toInt = 1 → rv M0 o0 17 = 3))) := by
        intro k10
        induction k10 with
        | zero =>
          intro i2_10 T_10 M_10 n_10 I_10 h_q0_10 iv0_10 iv1_10 iv2_10 iv3_10 kKR_10 hk10
          have := mz_hi i2_10
          have := kKR_10.1 15 _ _ rfl
          have := kKR_10.1 16 _ _ rfl
          have := kKR_10.1 19 _ _ rfl
          omega
        | succ k10 ih10 =>
          intro i2_10 T_10 M_10 n_10 I_10 h_q0_10 iv0_10 iv1_10 iv2_10 iv3_10 kKR_10 hk10
          refine mv_iload_n d_TrustDeskModel_isWord_28 rfl rfl ?_
          refine mv_aload_n d_TrustDeskModel_isWord_29 rfl rfl ?_
          refine mv_slenK (i := 12) (v := 4) d_TrustDeskModel_isWord_30 lV_TrustDeskModel_214 (by decide) rfl (by decide) (Nat.le_of_ble_eq_true rfl) ?_
          have := mz_hi i2_10
          refine mv_icmp_geZ (tgt := 63) (a := i2_10.toInt) (b := 4) d_TrustDeskModel_isWord_33 (by decide) rfl (by decide) (fun b11 => ?_) (fun b11 => ?_)
          · refine mv_iconst (v := 1) d_TrustDeskModel_isWord_63 (by decide) ?_
            exact mv_iret d_TrustDeskModel_isWord_64 rfl (by decide) ⟨_, I_10, _, rfl, by decide, by decide, kKR_10, (fun _ => by omega)⟩
          · refine mv_aload_n d_TrustDeskModel_isWord_36 rfl rfl ?_
            obtain ⟨a13, q12, t_a13⟩ := tm_atR I_10 h_q0_10 (k := 13) rfl
            refine tr_getK q12 d_TrustDeskModel_isWord_37 f_TrustDeskModel_44_13 ?_
            refine mv_aload_n d_TrustDeskModel_isWord_40 rfl rfl ?_
            obtain ⟨v15, q14⟩ := tm_atI I_10 h_q0_10 (k := 16) rfl
            refine tr_getK q14 d_TrustDeskModel_isWord_41 f_TrustDeskModel_195_13 ?_
            have := kKR_10.f (k := 16) q14 rfl
            have := tm_rv q14
            refine mv_iload_n d_TrustDeskModel_isWord_44 rfl rfl ?_
            refine mv_iadd d_TrustDeskModel_isWord_45 ?_
            have b16 : (v15 + i2_10 : Int32).toInt = (v15.toInt + i2_10.toInt) := mz_add2 rfl rfl (by have := kKR_10.1 15 _ _ rfl; have := kKR_10.1 16 _ _ rfl; have := kKR_10.1 19 _ _ rfl; omega) (by have := kKR_10.1 15 _ _ rfl; have := kKR_10.1 16 _ _ rfl; have := kKR_10.1 19 _ _ rfl; omega)
            refine tr_baldR (o := o0) (k := 13) I_10 q12 t_a13 (by decide) d_TrustDeskModel_isWord_46 (vp_in_iff.mpr (by have := kKR_10.1 15 _ _ rfl; have := kKR_10.1 16 _ _ rfl; have := kKR_10.1 19 _ _ rfl; omega)) (fun v17 e18 => ?_)
            have := kKR_10.a (k := 13) rfl ((v15 + i2_10) : Int32).toNatClampNeg
            refine mv_aload_n d_TrustDeskModel_isWord_47 rfl rfl ?_
            refine mv_iload_n d_TrustDeskModel_isWord_48 rfl rfl ?_
            refine mv_schN (i := 12) (N := 4) d_TrustDeskModel_isWord_49 lV_TrustDeskModel_220 (by decide) rfl rfl (by omega) (by omega) (Nat.le_of_ble_eq_true rfl) (fun v19 => ?_)
            have := mz_hi v17
            have := mz_hi v19
            refine mv_icmp_eqZ (tgt := 57) (a := v17.toInt) (b := v19.toInt) d_TrustDeskModel_isWord_52 (by decide) rfl rfl (fun b20 => ?_) (fun b20 => ?_)
            · refine mv_iinc (v := (i2_10 + 1)) (lv' := [(2, .int (i2_10 + 1)), (0, .ref o0), (1, .ref 22)]) d_TrustDeskModel_isWord_57 rfl rfl (by decide) rfl ?_
              refine mv_goto (tgt := 28) d_TrustDeskModel_isWord_60 (by decide) ?_
              have b21 : (i2_10 + 1).toInt = i2_10.toInt + 1 := mz_addn 1 1 (by decide) (by have := mz_lo i2_10; omega) (by have := mz_hi i2_10; omega)
              exact (ih10 (i2_10 + 1) T_10 M_10 n_10 I_10 h_q0_10 (by have := kKR_10.1 15 _ _ rfl; have := kKR_10.1 16 _ _ rfl; have := kKR_10.1 19 _ _ rfl; first | omega | decide | exact fun h9 => absurd (by decide) h9) (by have := kKR_10.1 15 _ _ rfl; have := kKR_10.1 16 _ _ rfl; have := kKR_10.1 19 _ _ rfl; first | omega | decide | exact fun h9 => absurd (by decide) h9) (by have := kKR_10.1 15 _ _ rfl; have := kKR_10.1 16 _ _ rfl; have := kKR_10.1 19 _ _ rfl; first | omega | decide | exact fun h9 => absurd (by decide) h9) (by have := kKR_10.1 15 _ _ rfl; have := kKR_10.1 16 _ _ rfl; have := kKR_10.1 19 _ _ rfl; first | omega | decide | exact fun h9 => absurd (by decide) h9) kKR_10 (by have := kKR_10.1 15 _ _ rfl; have := kKR_10.1 16 _ _ rfl; have := kKR_10.1 19 _ _ rfl; omega))
            · refine mv_iconst (v := 0) d_TrustDeskModel_isWord_55 (by decide) ?_
              exact mv_iret d_TrustDeskModel_isWord_56 rfl (by decide) ⟨_, I_10, _, rfl, by decide, by decide, kKR_10, (fun h => absurd h (by decide))⟩
      exact mv_less (Nat.zero_le _) (Nat.zero_le _) (L28_10 4294967296 0 T0 M0 n0 I0 h_o0 (by have := yR.1 15 _ _ rfl; have := yR.1 16 _ _ rfl; have := yR.1 19 _ _ rfl; first | omega | decide | exact fun h9 => absurd (by decide) h9) (by have := yR.1 15 _ _ rfl; have := yR.1 16 _ _ rfl; have := yR.1 19 _ _ rfl; first | omega | decide | exact fun h9 => absurd (by decide) h9) (by have := yR.1 15 _ _ rfl; have := yR.1 16 _ _ rfl; have := yR.1 19 _ _ rfl; first | omega | decide | exact fun h9 => absurd (by decide) h9) (by have := yR.1 15 _ _ rfl; have := yR.1 16 _ _ rfl; have := yR.1 19 _ _ rfl; first | omega | decide | exact fun h9 => absurd (by decide) h9) yR (by show (2147483647 - (0 : Int) : Int) < _; decide))
    · refine mv_iconst (v := 0) d_TrustDeskModel_isWord_24 (by decide) ?_
      exact mv_iret d_TrustDeskModel_isWord_25 rfl (by decide) ⟨_, I0, _, rfl, by decide, by decide, yR, (fun h => absurd h (by decide))⟩
theorem d_TrustDeskModel_readRule_81 : decode kY_TrustDeskModel_readRule.2.1 81 = .ok (.ifCond .eq 7, 3) := by decide +kernel
theorem d_TrustDeskModel_readRule_88 : decode kY_TrustDeskModel_readRule.2.1 88 = .ok (.aload_n 0, 1) := by decide +kernel
theorem d_TrustDeskModel_readRule_89 : decode kY_TrustDeskModel_readRule.2.1 89 = .ok (.ldc_w 372, 3) := by decide +kernel
theorem d_TrustDeskModel_readRule_92 : decode kY_TrustDeskModel_readRule.2.1 92 = .ok (.invokevirtual 244, 3) := by decide +kernel
def w_TrustDeskModel_isWord_s1_23_x : List Nat := []
theorem tc_TrustDeskModel_isWord_s1_23_x {g : mj_G} {l : Launch} {d : Nat} {T0 : tm_H} {M0 : mj_M} {n0 x9 : Nat} {o0 : Nat} (h_o0 : T0 o0 = some (0, 13, 0)) (yR : rI M0 o0) (I0 : tm_I tm_FT (tm_in w_TrustDeskModel_isWord_s1_23_x) x9 T0 M0 n0 T0 M0 n0) : mj_Met g l kY_TrustDeskModel_isWord (d + 4) [.ref o0, .ref 23] M0 n0 0 0 (tm_Q tm_FT (tm_in w_TrustDeskModel_isWord_s1_23_x) x9 T0 M0 n0 (fun r _ M => ∃ v : Int32, r = some (.int v) ∧ 0 ≤ v.toInt ∧ v.toInt ≤ 1 ∧ rI M o0 ∧ (v.toInt = 1 → rv M0 o0 17 = 3))) := by
  refine mj_enter (by decide) (Nat.le_of_ble_eq_true rfl) ?_
  refine mv_aload_n d_TrustDeskModel_isWord_0 rfl rfl ?_
  obtain ⟨v2, q1⟩ := tm_atI I0 h_o0 (k := 17) rfl
  refine tr_getK q1 d_TrustDeskModel_isWord_1 f_TrustDeskModel_198_13 ?_
  have := tm_rv q1
  refine mv_iconst (v := 3) d_TrustDeskModel_isWord_4 (by decide) ?_
  have := mz_hi v2
  refine mv_icmp_neZ (tgt := 24) (a := v2.toInt) (b := 3) d_TrustDeskModel_isWord_5 (by decide) rfl (by decide) (fun b3 => ?_) (fun b3 => ?_)
  · refine mv_iconst (v := 0) d_TrustDeskModel_isWord_24 (by decide) ?_
    exact mv_iret d_TrustDeskModel_isWord_25 rfl (by decide) ⟨_, I0, _, rfl, by decide, by decide, yR, (fun h => absurd h (by decide))⟩
  · refine mv_aload_n d_TrustDeskModel_isWord_8 rfl rfl ?_
    obtain ⟨v5, q4⟩ := tm_atI I0 h_o0 (k := 15) rfl
    refine tr_getK q4 d_TrustDeskModel_isWord_9 f_TrustDeskModel_192_13 ?_
    have := yR.f (k := 15) q4 rfl
    have := tm_rv q4
    refine mv_aload_n d_TrustDeskModel_isWord_12 rfl rfl ?_
    obtain ⟨v7, q6⟩ := tm_atI I0 h_o0 (k := 16) rfl
    refine tr_getK q6 d_TrustDeskModel_isWord_13 f_TrustDeskModel_195_13 ?_
    have := yR.f (k := 16) q6 rfl
    have := tm_rv q6
    refine mv_isub d_TrustDeskModel_isWord_16 ?_
    refine mv_aload_n d_TrustDeskModel_isWord_17 rfl rfl ?_
    refine mv_slenK (i := 13) (v := 4) d_TrustDeskModel_isWord_18 lV_TrustDeskModel_214 (by decide) rfl (by decide) (Nat.le_of_ble_eq_true rfl) ?_
    have b8 : (v5 - v7 : Int32).toInt = (v5.toInt - v7.toInt) := mz_sub2 rfl rfl (by have := yR.1 15 _ _ rfl; have := yR.1 16 _ _ rfl; have := yR.1 19 _ _ rfl; omega) (by have := yR.1 15 _ _ rfl; have := yR.1 16 _ _ rfl; have := yR.1 19 _ _ rfl; omega)
    have := mz_hi (v5 - v7)
    refine mv_icmp_eqZ (tgt := 26) (a := (v5 - v7).toInt) (b := 4) d_TrustDeskModel_isWord_21 (by decide) rfl (by decide) (fun b9 => ?_) (fun b9 => ?_)
    · refine mv_iconst (v := 0) d_TrustDeskModel_isWord_26 (by decide) ?_
      refine mv_istore_n (lv' := [(2, .int 0), (0, .ref o0), (1, .ref 23)]) d_TrustDeskModel_isWord_27 rfl (by decide) rfl ?_
      have L28_10 : ∀ (k : Nat) (i2_10 : Int32) (T_10 : tm_H) (M_10 : mj_M) (n_10 : Nat), tm_I tm_FT (tm_in w_TrustDeskModel_isWord_s1_23_x) x9 T0 M0 n0 T_10 M_10 n_10 → T_10 o0 = some (0, 13, 0) → 0 ≤ i2_10.toInt → rv M_10 o0 15 = rv M0 o0 15 → rv M_10 o0 16 = rv M0 o0 16 → i2_10.toInt ≤ 2147483646 → (rI M_10 o0) → 2147483647 - i2_10.toInt < (k : Int) → mj_V g l kY_TrustDeskModel_isWord (d + 4) 28 [(2, .int i2_10), (0, .ref o0), (1, .ref 23)] [] M_10 n_10 0 0 (tm_Q tm_FT (tm_in w_TrustDeskModel_isWord_s1_23_x) x9 T0 M0 n0 (fun r _ M => ∃ v : Int32, r = some (.int v) ∧ 0 ≤ v.toInt ∧ v.toInt ≤ 1 ∧ rI M o0 ∧ (v.toInt = 1 → rv M0 o0 17 = 3))) := by
        intro k10
        induction k10 with
        | zero =>
          intro i2_10 T_10 M_10 n_10 I_10 h_q0_10 iv0_10 iv1_10 iv2_10 iv3_10 kKR_10 hk10
          have := mz_hi i2_10
          have := kKR_10.1 15 _ _ rfl
          have := kKR_10.1 16 _ _ rfl
          have := kKR_10.1 19 _ _ rfl
          omega
        | succ k10 ih10 =>
          intro i2_10 T_10 M_10 n_10 I_10 h_q0_10 iv0_10 iv1_10 iv2_10 iv3_10 kKR_10 hk10
          refine mv_iload_n d_TrustDeskModel_isWord_28 rfl rfl ?_
          refine mv_aload_n d_TrustDeskModel_isWord_29 rfl rfl ?_
          refine mv_slenK (i := 13) (v := 4) d_TrustDeskModel_isWord_30 lV_TrustDeskModel_214 (by decide) rfl (by decide) (Nat.le_of_ble_eq_true rfl) ?_
          have := mz_hi i2_10
          refine mv_icmp_geZ (tgt := 63) (a := i2_10.toInt) (b := 4) d_TrustDeskModel_isWord_33 (by decide) rfl (by decide) (fun b11 => ?_) (fun b11 => ?_)
          · refine mv_iconst (v := 1) d_TrustDeskModel_isWord_63 (by decide) ?_
            exact mv_iret d_TrustDeskModel_isWord_64 rfl (by decide) ⟨_, I_10, _, rfl, by decide, by decide, kKR_10, (fun _ => by omega)⟩
          · refine mv_aload_n d_TrustDeskModel_isWord_36 rfl rfl ?_
            obtain ⟨a13, q12, t_a13⟩ := tm_atR I_10 h_q0_10 (k := 13) rfl
            refine tr_getK q12 d_TrustDeskModel_isWord_37 f_TrustDeskModel_44_13 ?_
            refine mv_aload_n d_TrustDeskModel_isWord_40 rfl rfl ?_
            obtain ⟨v15, q14⟩ := tm_atI I_10 h_q0_10 (k := 16) rfl
            refine tr_getK q14 d_TrustDeskModel_isWord_41 f_TrustDeskModel_195_13 ?_
            have := kKR_10.f (k := 16) q14 rfl
            have := tm_rv q14
            refine mv_iload_n d_TrustDeskModel_isWord_44 rfl rfl ?_
            refine mv_iadd d_TrustDeskModel_isWord_45 ?_
            have b16 : (v15 + i2_10 : Int32).toInt = (v15.toInt + i2_10.toInt) := mz_add2 rfl rfl (by have := kKR_10.1 15 _ _ rfl; have := kKR_10.1 16 _ _ rfl; have := kKR_10.1 19 _ _ rfl; omega) (by have := kKR_10.1 15 _ _ rfl; have := kKR_10.1 16 _ _ rfl; have := kKR_10.1 19 _ _ rfl; omega)
            refine tr_baldR (o := o0) (k := 13) I_10 q12 t_a13 (by decide) d_TrustDeskModel_isWord_46 (vp_in_iff.mpr (by have := kKR_10.1 15 _ _ rfl; have := kKR_10.1 16 _ _ rfl; have := kKR_10.1 19 _ _ rfl; omega)) (fun v17 e18 => ?_)
            have := kKR_10.a (k := 13) rfl ((v15 + i2_10) : Int32).toNatClampNeg
            refine mv_aload_n d_TrustDeskModel_isWord_47 rfl rfl ?_
            refine mv_iload_n d_TrustDeskModel_isWord_48 rfl rfl ?_
            refine mv_schN (i := 13) (N := 4) d_TrustDeskModel_isWord_49 lV_TrustDeskModel_220 (by decide) rfl rfl (by omega) (by omega) (Nat.le_of_ble_eq_true rfl) (fun v19 => ?_)
            have := mz_hi v17
            have := mz_hi v19
            refine mv_icmp_eqZ (tgt := 57) (a := v17.toInt) (b := v19.toInt) d_TrustDeskModel_isWord_52 (by decide) rfl rfl (fun b20 => ?_) (fun b20 => ?_)
            · refine mv_iinc (v := (i2_10 + 1)) (lv' := [(2, .int (i2_10 + 1)), (0, .ref o0), (1, .ref 23)]) d_TrustDeskModel_isWord_57 rfl rfl (by decide) rfl ?_
              refine mv_goto (tgt := 28) d_TrustDeskModel_isWord_60 (by decide) ?_
              have b21 : (i2_10 + 1).toInt = i2_10.toInt + 1 := mz_addn 1 1 (by decide) (by have := mz_lo i2_10; omega) (by have := mz_hi i2_10; omega)
              exact (ih10 (i2_10 + 1) T_10 M_10 n_10 I_10 h_q0_10 (by have := kKR_10.1 15 _ _ rfl; have := kKR_10.1 16 _ _ rfl; have := kKR_10.1 19 _ _ rfl; first | omega | decide | exact fun h9 => absurd (by decide) h9) (by have := kKR_10.1 15 _ _ rfl; have := kKR_10.1 16 _ _ rfl; have := kKR_10.1 19 _ _ rfl; first | omega | decide | exact fun h9 => absurd (by decide) h9) (by have := kKR_10.1 15 _ _ rfl; have := kKR_10.1 16 _ _ rfl; have := kKR_10.1 19 _ _ rfl; first | omega | decide | exact fun h9 => absurd (by decide) h9) (by have := kKR_10.1 15 _ _ rfl; have := kKR_10.1 16 _ _ rfl; have := kKR_10.1 19 _ _ rfl; first | omega | decide | exact fun h9 => absurd (by decide) h9) kKR_10 (by have := kKR_10.1 15 _ _ rfl; have := kKR_10.1 16 _ _ rfl; have := kKR_10.1 19 _ _ rfl; omega))
            · refine mv_iconst (v := 0) d_TrustDeskModel_isWord_55 (by decide) ?_
              exact mv_iret d_TrustDeskModel_isWord_56 rfl (by decide) ⟨_, I_10, _, rfl, by decide, by decide, kKR_10, (fun h => absurd h (by decide))⟩
      exact mv_less (Nat.zero_le _) (Nat.zero_le _) (L28_10 4294967296 0 T0 M0 n0 I0 h_o0 (by have := yR.1 15 _ _ rfl; have := yR.1 16 _ _ rfl; have := yR.1 19 _ _ rfl; first | omega | decide | exact fun h9 => absurd (by decide) h9) (by have := yR.1 15 _ _ rfl; have := yR.1 16 _ _ rfl; have := yR.1 19 _ _ rfl; first | omega | decide | exact fun h9 => absurd (by decide) h9) (by have := yR.1 15 _ _ rfl; have := yR.1 16 _ _ rfl; have := yR.1 19 _ _ rfl; first | omega | decide | exact fun h9 => absurd (by decide) h9) (by have := yR.1 15 _ _ rfl; have := yR.1 16 _ _ rfl; have := yR.1 19 _ _ rfl; first | omega | decide | exact fun h9 => absurd (by decide) h9) yR (by show (2147483647 - (0 : Int) : Int) < _; decide))
    · refine mv_iconst (v := 0) d_TrustDeskModel_isWord_24 (by decide) ?_
      exact mv_iret d_TrustDeskModel_isWord_25 rfl (by decide) ⟨_, I0, _, rfl, by decide, by decide, yR, (fun h => absurd h (by decide))⟩
theorem d_TrustDeskModel_readRule_95 : decode kY_TrustDeskModel_readRule.2.1 95 = .ok (.ifCond .eq 7, 3) := by decide +kernel
theorem d_TrustDeskModel_readRule_102 : decode kY_TrustDeskModel_readRule.2.1 102 = .ok (.aload_n 0, 1) := by decide +kernel
theorem d_TrustDeskModel_readRule_103 : decode kY_TrustDeskModel_readRule.2.1 103 = .ok (.ldc_w 374, 3) := by decide +kernel
theorem d_TrustDeskModel_readRule_106 : decode kY_TrustDeskModel_readRule.2.1 106 = .ok (.invokevirtual 244, 3) := by decide +kernel
def w_TrustDeskModel_isWord_s1_24_x : List Nat := []
theorem tc_TrustDeskModel_isWord_s1_24_x {g : mj_G} {l : Launch} {d : Nat} {T0 : tm_H} {M0 : mj_M} {n0 x9 : Nat} {o0 : Nat} (h_o0 : T0 o0 = some (0, 13, 0)) (yR : rI M0 o0) (I0 : tm_I tm_FT (tm_in w_TrustDeskModel_isWord_s1_24_x) x9 T0 M0 n0 T0 M0 n0) : mj_Met g l kY_TrustDeskModel_isWord (d + 4) [.ref o0, .ref 24] M0 n0 0 0 (tm_Q tm_FT (tm_in w_TrustDeskModel_isWord_s1_24_x) x9 T0 M0 n0 (fun r _ M => ∃ v : Int32, r = some (.int v) ∧ 0 ≤ v.toInt ∧ v.toInt ≤ 1 ∧ rI M o0 ∧ (v.toInt = 1 → rv M0 o0 17 = 3))) := by
  refine mj_enter (by decide) (Nat.le_of_ble_eq_true rfl) ?_
  refine mv_aload_n d_TrustDeskModel_isWord_0 rfl rfl ?_
  obtain ⟨v2, q1⟩ := tm_atI I0 h_o0 (k := 17) rfl
  refine tr_getK q1 d_TrustDeskModel_isWord_1 f_TrustDeskModel_198_13 ?_
  have := tm_rv q1
  refine mv_iconst (v := 3) d_TrustDeskModel_isWord_4 (by decide) ?_
  have := mz_hi v2
  refine mv_icmp_neZ (tgt := 24) (a := v2.toInt) (b := 3) d_TrustDeskModel_isWord_5 (by decide) rfl (by decide) (fun b3 => ?_) (fun b3 => ?_)
  · refine mv_iconst (v := 0) d_TrustDeskModel_isWord_24 (by decide) ?_
    exact mv_iret d_TrustDeskModel_isWord_25 rfl (by decide) ⟨_, I0, _, rfl, by decide, by decide, yR, (fun h => absurd h (by decide))⟩
  · refine mv_aload_n d_TrustDeskModel_isWord_8 rfl rfl ?_
    obtain ⟨v5, q4⟩ := tm_atI I0 h_o0 (k := 15) rfl
    refine tr_getK q4 d_TrustDeskModel_isWord_9 f_TrustDeskModel_192_13 ?_
    have := yR.f (k := 15) q4 rfl
    have := tm_rv q4
    refine mv_aload_n d_TrustDeskModel_isWord_12 rfl rfl ?_
    obtain ⟨v7, q6⟩ := tm_atI I0 h_o0 (k := 16) rfl
    refine tr_getK q6 d_TrustDeskModel_isWord_13 f_TrustDeskModel_195_13 ?_
    have := yR.f (k := 16) q6 rfl
    have := tm_rv q6
    refine mv_isub d_TrustDeskModel_isWord_16 ?_
    refine mv_aload_n d_TrustDeskModel_isWord_17 rfl rfl ?_
    refine mv_slenK (i := 14) (v := 6) d_TrustDeskModel_isWord_18 lV_TrustDeskModel_214 (by decide) rfl (by decide) (Nat.le_of_ble_eq_true rfl) ?_
    have b8 : (v5 - v7 : Int32).toInt = (v5.toInt - v7.toInt) := mz_sub2 rfl rfl (by have := yR.1 15 _ _ rfl; have := yR.1 16 _ _ rfl; have := yR.1 19 _ _ rfl; omega) (by have := yR.1 15 _ _ rfl; have := yR.1 16 _ _ rfl; have := yR.1 19 _ _ rfl; omega)
    have := mz_hi (v5 - v7)
    refine mv_icmp_eqZ (tgt := 26) (a := (v5 - v7).toInt) (b := 6) d_TrustDeskModel_isWord_21 (by decide) rfl (by decide) (fun b9 => ?_) (fun b9 => ?_)
    · refine mv_iconst (v := 0) d_TrustDeskModel_isWord_26 (by decide) ?_
      refine mv_istore_n (lv' := [(2, .int 0), (0, .ref o0), (1, .ref 24)]) d_TrustDeskModel_isWord_27 rfl (by decide) rfl ?_
      have L28_10 : ∀ (k : Nat) (i2_10 : Int32) (T_10 : tm_H) (M_10 : mj_M) (n_10 : Nat), tm_I tm_FT (tm_in w_TrustDeskModel_isWord_s1_24_x) x9 T0 M0 n0 T_10 M_10 n_10 → T_10 o0 = some (0, 13, 0) → 0 ≤ i2_10.toInt → rv M_10 o0 15 = rv M0 o0 15 → rv M_10 o0 16 = rv M0 o0 16 → i2_10.toInt ≤ 2147483646 → (rI M_10 o0) → 2147483647 - i2_10.toInt < (k : Int) → mj_V g l kY_TrustDeskModel_isWord (d + 4) 28 [(2, .int i2_10), (0, .ref o0), (1, .ref 24)] [] M_10 n_10 0 0 (tm_Q tm_FT (tm_in w_TrustDeskModel_isWord_s1_24_x) x9 T0 M0 n0 (fun r _ M => ∃ v : Int32, r = some (.int v) ∧ 0 ≤ v.toInt ∧ v.toInt ≤ 1 ∧ rI M o0 ∧ (v.toInt = 1 → rv M0 o0 17 = 3))) := by
        intro k10
        induction k10 with
        | zero =>
          intro i2_10 T_10 M_10 n_10 I_10 h_q0_10 iv0_10 iv1_10 iv2_10 iv3_10 kKR_10 hk10
          have := mz_hi i2_10
          have := kKR_10.1 15 _ _ rfl
          have := kKR_10.1 16 _ _ rfl
          have := kKR_10.1 19 _ _ rfl
          omega
        | succ k10 ih10 =>
          intro i2_10 T_10 M_10 n_10 I_10 h_q0_10 iv0_10 iv1_10 iv2_10 iv3_10 kKR_10 hk10
          refine mv_iload_n d_TrustDeskModel_isWord_28 rfl rfl ?_
          refine mv_aload_n d_TrustDeskModel_isWord_29 rfl rfl ?_
          refine mv_slenK (i := 14) (v := 6) d_TrustDeskModel_isWord_30 lV_TrustDeskModel_214 (by decide) rfl (by decide) (Nat.le_of_ble_eq_true rfl) ?_
          have := mz_hi i2_10
          refine mv_icmp_geZ (tgt := 63) (a := i2_10.toInt) (b := 6) d_TrustDeskModel_isWord_33 (by decide) rfl (by decide) (fun b11 => ?_) (fun b11 => ?_)
          · refine mv_iconst (v := 1) d_TrustDeskModel_isWord_63 (by decide) ?_
            exact mv_iret d_TrustDeskModel_isWord_64 rfl (by decide) ⟨_, I_10, _, rfl, by decide, by decide, kKR_10, (fun _ => by omega)⟩
          · refine mv_aload_n d_TrustDeskModel_isWord_36 rfl rfl ?_
            obtain ⟨a13, q12, t_a13⟩ := tm_atR I_10 h_q0_10 (k := 13) rfl
            refine tr_getK q12 d_TrustDeskModel_isWord_37 f_TrustDeskModel_44_13 ?_
            refine mv_aload_n d_TrustDeskModel_isWord_40 rfl rfl ?_
            obtain ⟨v15, q14⟩ := tm_atI I_10 h_q0_10 (k := 16) rfl
            refine tr_getK q14 d_TrustDeskModel_isWord_41 f_TrustDeskModel_195_13 ?_
            have := kKR_10.f (k := 16) q14 rfl
            have := tm_rv q14
            refine mv_iload_n d_TrustDeskModel_isWord_44 rfl rfl ?_
            refine mv_iadd d_TrustDeskModel_isWord_45 ?_
            have b16 : (v15 + i2_10 : Int32).toInt = (v15.toInt + i2_10.toInt) := mz_add2 rfl rfl (by have := kKR_10.1 15 _ _ rfl; have := kKR_10.1 16 _ _ rfl; have := kKR_10.1 19 _ _ rfl; omega) (by have := kKR_10.1 15 _ _ rfl; have := kKR_10.1 16 _ _ rfl; have := kKR_10.1 19 _ _ rfl; omega)
            refine tr_baldR (o := o0) (k := 13) I_10 q12 t_a13 (by decide) d_TrustDeskModel_isWord_46 (vp_in_iff.mpr (by have := kKR_10.1 15 _ _ rfl; have := kKR_10.1 16 _ _ rfl; have := kKR_10.1 19 _ _ rfl; omega)) (fun v17 e18 => ?_)
            have := kKR_10.a (k := 13) rfl ((v15 + i2_10) : Int32).toNatClampNeg
            refine mv_aload_n d_TrustDeskModel_isWord_47 rfl rfl ?_
            refine mv_iload_n d_TrustDeskModel_isWord_48 rfl rfl ?_
            refine mv_schN (i := 14) (N := 6) d_TrustDeskModel_isWord_49 lV_TrustDeskModel_220 (by decide) rfl rfl (by omega) (by omega) (Nat.le_of_ble_eq_true rfl) (fun v19 => ?_)
            have := mz_hi v17
            have := mz_hi v19
            refine mv_icmp_eqZ (tgt := 57) (a := v17.toInt) (b := v19.toInt) d_TrustDeskModel_isWord_52 (by decide) rfl rfl (fun b20 => ?_) (fun b20 => ?_)
            · refine mv_iinc (v := (i2_10 + 1)) (lv' := [(2, .int (i2_10 + 1)), (0, .ref o0), (1, .ref 24)]) d_TrustDeskModel_isWord_57 rfl rfl (by decide) rfl ?_
              refine mv_goto (tgt := 28) d_TrustDeskModel_isWord_60 (by decide) ?_
              have b21 : (i2_10 + 1).toInt = i2_10.toInt + 1 := mz_addn 1 1 (by decide) (by have := mz_lo i2_10; omega) (by have := mz_hi i2_10; omega)
              exact (ih10 (i2_10 + 1) T_10 M_10 n_10 I_10 h_q0_10 (by have := kKR_10.1 15 _ _ rfl; have := kKR_10.1 16 _ _ rfl; have := kKR_10.1 19 _ _ rfl; first | omega | decide | exact fun h9 => absurd (by decide) h9) (by have := kKR_10.1 15 _ _ rfl; have := kKR_10.1 16 _ _ rfl; have := kKR_10.1 19 _ _ rfl; first | omega | decide | exact fun h9 => absurd (by decide) h9) (by have := kKR_10.1 15 _ _ rfl; have := kKR_10.1 16 _ _ rfl; have := kKR_10.1 19 _ _ rfl; first | omega | decide | exact fun h9 => absurd (by decide) h9) (by have := kKR_10.1 15 _ _ rfl; have := kKR_10.1 16 _ _ rfl; have := kKR_10.1 19 _ _ rfl; first | omega | decide | exact fun h9 => absurd (by decide) h9) kKR_10 (by have := kKR_10.1 15 _ _ rfl; have := kKR_10.1 16 _ _ rfl; have := kKR_10.1 19 _ _ rfl; omega))
            · refine mv_iconst (v := 0) d_TrustDeskModel_isWord_55 (by decide) ?_
              exact mv_iret d_TrustDeskModel_isWord_56 rfl (by decide) ⟨_, I_10, _, rfl, by decide, by decide, kKR_10, (fun h => absurd h (by decide))⟩
      exact mv_less (Nat.zero_le _) (Nat.zero_le _) (L28_10 4294967296 0 T0 M0 n0 I0 h_o0 (by have := yR.1 15 _ _ rfl; have := yR.1 16 _ _ rfl; have := yR.1 19 _ _ rfl; first | omega | decide | exact fun h9 => absurd (by decide) h9) (by have := yR.1 15 _ _ rfl; have := yR.1 16 _ _ rfl; have := yR.1 19 _ _ rfl; first | omega | decide | exact fun h9 => absurd (by decide) h9) (by have := yR.1 15 _ _ rfl; have := yR.1 16 _ _ rfl; have := yR.1 19 _ _ rfl; first | omega | decide | exact fun h9 => absurd (by decide) h9) (by have := yR.1 15 _ _ rfl; have := yR.1 16 _ _ rfl; have := yR.1 19 _ _ rfl; first | omega | decide | exact fun h9 => absurd (by decide) h9) yR (by show (2147483647 - (0 : Int) : Int) < _; decide))
    · refine mv_iconst (v := 0) d_TrustDeskModel_isWord_24 (by decide) ?_
      exact mv_iret d_TrustDeskModel_isWord_25 rfl (by decide) ⟨_, I0, _, rfl, by decide, by decide, yR, (fun h => absurd h (by decide))⟩
theorem d_TrustDeskModel_readRule_109 : decode kY_TrustDeskModel_readRule.2.1 109 = .ok (.ifCond .eq 7, 3) := by decide +kernel
theorem d_TrustDeskModel_readRule_116 : decode kY_TrustDeskModel_readRule.2.1 116 = .ok (.iconst (-1), 1) := by decide +kernel
theorem d_TrustDeskModel_readRule_117 : decode kY_TrustDeskModel_readRule.2.1 117 = .ok (.iastore, 1) := by decide +kernel
theorem d_TrustDeskModel_readRule_118 : decode kY_TrustDeskModel_readRule.2.1 118 = .ok (.aload_n 0, 1) := by decide +kernel
theorem d_TrustDeskModel_readRule_119 : decode kY_TrustDeskModel_readRule.2.1 119 = .ok (.getfield 29, 3) := by decide +kernel
theorem d_TrustDeskModel_readRule_122 : decode kY_TrustDeskModel_readRule.2.1 122 = .ok (.iload_n 2, 1) := by decide +kernel
theorem d_TrustDeskModel_readRule_123 : decode kY_TrustDeskModel_readRule.2.1 123 = .ok (.iaload, 1) := by decide +kernel
theorem d_TrustDeskModel_readRule_124 : decode kY_TrustDeskModel_readRule.2.1 124 = .ok (.iconst (-1), 1) := by decide +kernel
theorem d_TrustDeskModel_readRule_125 : decode kY_TrustDeskModel_readRule.2.1 125 = .ok (.if_icmp .ne 8, 3) := by decide +kernel
theorem d_TrustDeskModel_readRule_128 : decode kY_TrustDeskModel_readRule.2.1 128 = .ok (.aload_n 0, 1) := by decide +kernel
theorem d_TrustDeskModel_readRule_129 : decode kY_TrustDeskModel_readRule.2.1 129 = .ok (.iconst 1, 1) := by decide +kernel
theorem d_TrustDeskModel_readRule_130 : decode kY_TrustDeskModel_readRule.2.1 130 = .ok (.invokevirtual 240, 3) := by decide +kernel
theorem d_TrustDeskModel_readRule_133 : decode kY_TrustDeskModel_readRule.2.1 133 = .ok (.aload_n 0, 1) := by decide +kernel
theorem d_TrustDeskModel_readRule_134 : decode kY_TrustDeskModel_readRule.2.1 134 = .ok (.invokevirtual 230, 3) := by decide +kernel
theorem d_TrustDeskModel_readRule_137 : decode kY_TrustDeskModel_readRule.2.1 137 = .ok (.ifCond .eq 7, 3) := by decide +kernel
theorem d_TrustDeskModel_readRule_144 : decode kY_TrustDeskModel_readRule.2.1 144 = .ok (.aload_n 0, 1) := by decide +kernel
theorem d_TrustDeskModel_readRule_145 : decode kY_TrustDeskModel_readRule.2.1 145 = .ok (.ldc_w 333, 3) := by decide +kernel
theorem d_TrustDeskModel_readRule_148 : decode kY_TrustDeskModel_readRule.2.1 148 = .ok (.invokevirtual 329, 3) := by decide +kernel
theorem d_TrustDeskModel_readRule_151 : decode kY_TrustDeskModel_readRule.2.1 151 = .ok (.aload_n 0, 1) := by decide +kernel
theorem d_TrustDeskModel_readRule_152 : decode kY_TrustDeskModel_readRule.2.1 152 = .ok (.getfield 38, 3) := by decide +kernel
theorem d_TrustDeskModel_readRule_155 : decode kY_TrustDeskModel_readRule.2.1 155 = .ok (.iload_n 2, 1) := by decide +kernel
theorem d_TrustDeskModel_readRule_156 : decode kY_TrustDeskModel_readRule.2.1 156 = .ok (.aload_n 0, 1) := by decide +kernel
theorem d_TrustDeskModel_readRule_157 : decode kY_TrustDeskModel_readRule.2.1 157 = .ok (.getfield 20, 3) := by decide +kernel
theorem d_TrustDeskModel_readRule_160 : decode kY_TrustDeskModel_readRule.2.1 160 = .ok (.bipush 44, 2) := by decide +kernel
theorem d_TrustDeskModel_readRule_162 : decode kY_TrustDeskModel_readRule.2.1 162 = .ok (.iaload, 1) := by decide +kernel
theorem d_TrustDeskModel_readRule_163 : decode kY_TrustDeskModel_readRule.2.1 163 = .ok (.iastore, 1) := by decide +kernel
theorem d_TrustDeskModel_readRule_164 : decode kY_TrustDeskModel_readRule.2.1 164 = .ok (.aload_n 0, 1) := by decide +kernel
theorem d_TrustDeskModel_readRule_165 : decode kY_TrustDeskModel_readRule.2.1 165 = .ok (.invokevirtual 302, 3) := by decide +kernel
theorem d_TrustDeskModel_readRule_168 : decode kY_TrustDeskModel_readRule.2.1 168 = .ok (.goto 83, 3) := by decide +kernel
theorem d_TrustDeskModel_readRule_112 : decode kY_TrustDeskModel_readRule.2.1 112 = .ok (.iconst 3, 1) := by decide +kernel
theorem d_TrustDeskModel_readRule_113 : decode kY_TrustDeskModel_readRule.2.1 113 = .ok (.goto 4, 3) := by decide +kernel
theorem d_TrustDeskModel_readRule_140 : decode kY_TrustDeskModel_readRule.2.1 140 = .ok (.aload_n 0, 1) := by decide +kernel
theorem d_TrustDeskModel_readRule_141 : decode kY_TrustDeskModel_readRule.2.1 141 = .ok (.invokevirtual 237, 3) := by decide +kernel
theorem d_TrustDeskModel_readRule_98 : decode kY_TrustDeskModel_readRule.2.1 98 = .ok (.iconst 2, 1) := by decide +kernel
theorem d_TrustDeskModel_readRule_99 : decode kY_TrustDeskModel_readRule.2.1 99 = .ok (.goto 18, 3) := by decide +kernel
theorem d_TrustDeskModel_readRule_84 : decode kY_TrustDeskModel_readRule.2.1 84 = .ok (.iconst 1, 1) := by decide +kernel
theorem d_TrustDeskModel_readRule_85 : decode kY_TrustDeskModel_readRule.2.1 85 = .ok (.goto 32, 3) := by decide +kernel
theorem d_TrustDeskModel_readRule_70 : decode kY_TrustDeskModel_readRule.2.1 70 = .ok (.iconst 0, 1) := by decide +kernel
theorem d_TrustDeskModel_readRule_71 : decode kY_TrustDeskModel_readRule.2.1 71 = .ok (.goto 46, 3) := by decide +kernel
theorem d_TrustDeskModel_readRule_30 : decode kY_TrustDeskModel_readRule.2.1 30 = .ok (.aload_n 0, 1) := by decide +kernel
theorem d_TrustDeskModel_readRule_31 : decode kY_TrustDeskModel_readRule.2.1 31 = .ok (.iconst 4, 1) := by decide +kernel
theorem d_TrustDeskModel_readRule_32 : decode kY_TrustDeskModel_readRule.2.1 32 = .ok (.invokevirtual 240, 3) := by decide +kernel
theorem d_TrustDeskModel_readRule_10 : decode kY_TrustDeskModel_readRule.2.1 10 = .ok (.aload_n 0, 1) := by decide +kernel
theorem d_TrustDeskModel_readRule_11 : decode kY_TrustDeskModel_readRule.2.1 11 = .ok (.iconst 1, 1) := by decide +kernel
theorem d_TrustDeskModel_readRule_12 : decode kY_TrustDeskModel_readRule.2.1 12 = .ok (.invokevirtual 240, 3) := by decide +kernel
theorem d_TrustDeskModel_readRule_15 : decode kY_TrustDeskModel_readRule.2.1 15 = .ok (.goto 20, 3) := by decide +kernel
def w_TrustDeskModel_readRule_x : List Nat := [1315, 1316, 1317, 1318, 1319, 1320, 1322, 20004, 20005, 20006, 20007, 20008, 20010, 20011, 20012]
set_option maxHeartbeats 100000000 in theorem tc_TrustDeskModel_readRule_x {g : mj_G} {l : Launch} {d : Nat} {T0 : tm_H} {M0 : mj_M} {n0 x9 : Nat} {o0 : Nat} (h_o0 : T0 o0 = some (0, 13, 0)) (yR : rI M0 o0) (yWW : rW M0 o0) (yw : rv M0 o0 19 = 0) (yo : rv M0 o0 17 ≠ 0) (yq : rv M0 o0 22 = 0) (I0 : tm_I tm_FT (tm_in w_TrustDeskModel_readRule_x) x9 T0 M0 n0 T0 M0 n0) : mj_Met g l kY_TrustDeskModel_readRule (d + 25) [.ref o0] M0 n0 0 0 (tm_Q tm_FT (tm_in w_TrustDeskModel_readRule_x) x9 T0 M0 n0 (fun r _ M => r = none ∧ rI M o0 ∧ (rW M o0) ∧ (rO M0 M o0) ∧ (rv M0 o0 16 ≤ rv M o0 16 ∧ (rv M o0 19 = 0 → rv M0 o0 16 < rv M o0 16)) ∧ (rv M o0 19 = 0 → rv M o0 22 = 0))) := by
  refine mj_enter (by decide) (Nat.le_of_ble_eq_true rfl) ?_
  have yT := yWW.1
  have yS : rv M0 o0 19 = 0 → ra M0 o0 5 44 ≤ rv M0 o0 16 := fun h9 => (yWW.2 h9).1
  have yG := (yWW.2 yw).2
  have yN := yG.2.2
  have := yR.2 6 _ _ rfl 44
  have yE0 := rE.rf yT
  have K1 : rK M0 M0 o0 ((880 + ra M0 o0 6 44).toNat) := rK.rf
  have K2 : nN M0 o0 := yN
  refine mv_aload_n d_TrustDeskModel_readRule_0 rfl rfl ?_
  obtain ⟨_, b9, -⟩ := I0.1 _ _ h_o0
  refine mv_callV (kc' := 0) (ks' := 0) (As := []) (st9 := [.ref o0]) d_TrustDeskModel_readRule_1 lV_TrustDeskModel_365 b9 rfl (tc_TrustDeskModel_ruleWord_x (d := (d + 19)) (x9 := x9) (o0 := o0) h_o0 yR I0.start) rfl (Nat.le_of_ble_eq_true rfl) (Nat.le_of_ble_eq_true rfl) (Nat.le_of_ble_eq_true rfl) (hst := rfl) (fun b3r M4 n5 b3 => ?_)
  obtain ⟨T6, J7, v10, rfl, R11, f12⟩ := b3
  have I8 := I0.call J7 (tm_sub (by decide)) (Or.inl rfl)
  have t13 := J7.up h_o0
  have z14 := (rv_c I0 J7 (I0.up h_o0) (k := 15) rfl)
  have z15 := (rv_c I0 J7 (I0.up h_o0) (k := 16) rfl)
  have z16 := (rv_c I0 J7 (I0.up h_o0) (k := 17) rfl)
  have z17 := (rv_c I0 J7 (I0.up h_o0) (k := 19) rfl)
  have z18 := (rv_c I0 J7 (I0.up h_o0) (k := 22) rfl)
  have z19 := (rv_c I0 J7 (I0.up h_o0) (k := 24) rfl)
  have z20 := (ra_call I0 J7 (I0.up h_o0) (k := 5) rfl rfl rfl 44)
  have z21 := (ra_call I0 J7 (I0.up h_o0) (k := 6) rfl rfl rfl 44)
  have E22 : rE M0 M4 o0 0 0 := yE0.same (rE_hv I0 J7 (I0.up h_o0) 15 19 (by decide)) (rE_ha I0 J7 (I0.up h_o0) (by decide))
  have K23 : rK M0 M4 o0 ((880 + ra M0 o0 6 44).toNat) := K1.same (sA_c I0 J7 (I0.up h_o0) (by decide))
  have K24 : nN M4 o0 := K2.same (sA_c I0 J7 (I0.up h_o0) (by decide)) (sF_c I0 J7 (I0.up h_o0) (by decide))
  refine mv_istore_n (lv' := [(1, .int v10), (0, .ref o0)]) d_TrustDeskModel_readRule_4 rfl (by decide) rfl ?_
  refine mv_iload_n d_TrustDeskModel_readRule_5 rfl rfl ?_
  refine mv_iconst (v := (-1)) d_TrustDeskModel_readRule_6 (by decide) ?_
  have := mz_hi v10
  refine mv_icmp_neZ (tgt := 18) (a := v10.toInt) (b := (-1)) d_TrustDeskModel_readRule_7 (by decide) rfl (by decide) (fun b25 => ?_) (fun b25 => ?_)
  · refine mv_aload_n d_TrustDeskModel_readRule_18 rfl rfl ?_
    obtain ⟨a27, q26, t_a27⟩ := tm_atR I8 t13 (k := 6) rfl
    refine tr_getK q26 d_TrustDeskModel_readRule_19 f_TrustDeskModel_23_13 ?_
    refine mv_bipush (v := 44) d_TrustDeskModel_readRule_22 (by decide) ?_
    refine tr_ialdR (o := o0) (k := 6) I8 q26 t_a27 (by decide) d_TrustDeskModel_readRule_24 (by unfold vp_in; decide) (fun v28 e29 => ?_)
    have := R11.a (k := 6) rfl (44 : Int32).toNatClampNeg
    have : v28.toInt = ra M4 o0 6 44 := e29
    have : v28.toInt = _ := Eq.trans e29 z21
    refine mv_bipush (v := 20) d_TrustDeskModel_readRule_25 (by decide) ?_
    have := mz_hi v28
    refine mv_icmp_neZ (tgt := 35) (a := v28.toInt) (b := 20) d_TrustDeskModel_readRule_27 (by decide) rfl (by decide) (fun b30 => ?_) (fun b30 => ?_)
    · refine mv_aload_n d_TrustDeskModel_readRule_35 rfl rfl ?_
      obtain ⟨_, b31, -⟩ := I8.1 _ _ t13
      refine mv_callV (kc1 := 0) (ks1 := 0) (kc' := 0) (ks' := 0) (As := []) (st9 := [.ref o0]) d_TrustDeskModel_readRule_36 lV_TrustDeskModel_230 b31 rfl (mj_enter (by decide) (Nat.le_of_ble_eq_true rfl) ?_) rfl (Nat.le_of_ble_eq_true rfl) (Nat.le_of_ble_eq_true rfl) (Nat.le_of_ble_eq_true rfl) (hst := rfl) (fun _ _ _ h => h)
      refine mv_aload_n d_TrustDeskModel_isWell_0 rfl rfl ?_
      obtain ⟨v33, q32⟩ := tm_atI I8 t13 (k := 19) rfl
      refine tr_getK q32 d_TrustDeskModel_isWell_1 f_TrustDeskModel_224_13 ?_
      have := R11.f (k := 19) q32 rfl
      have := (tm_rv q32).symm.trans z17
      have := tm_rv q32
      have := mz_hi v33
      refine mv_if_neZ (tgt := 11) (a := v33.toInt) d_TrustDeskModel_isWell_4 (by decide) rfl (fun b34 => ?_) (fun b34 => ?_)
      · refine mv_iconst (v := 0) d_TrustDeskModel_isWell_11 (by decide) ?_
        refine mv_iret d_TrustDeskModel_isWell_12 rfl (by decide) ?_
        refine mv_if_ne_f (tgt := 43) d_TrustDeskModel_readRule_39 (by decide) (by decide) ?_
        exact mv_vret d_TrustDeskModel_readRule_42 rfl ⟨_, I8, rfl, R11, (rW.of E22.1 (E22.s yS (by decide)) (fun w9 => by skip; exact rG.step yG yR E22 w9 K23 (by have := yR.2 6 _ _ rfl 44; omega) (by have := R11.1 15 _ _ rfl; have := R11.1 16 _ _ rfl; have := R11.1 19 _ _ rfl; omega) (by have := R11.1 15 _ _ rfl; have := R11.1 16 _ _ rfl; have := R11.1 19 _ _ rfl; omega) (fun h9 => by exfalso; have := R11.1 15 _ _ rfl; have := R11.1 16 _ _ rfl; have := R11.1 19 _ _ rfl; omega) (fun h9 => (by have := R11.1 15 _ _ rfl; have := R11.1 16 _ _ rfl; have := R11.1 19 _ _ rfl; omega)) (by have := R11.1 15 _ _ rfl; have := R11.1 16 _ _ rfl; have := R11.1 19 _ _ rfl; omega) K24)), (rO.of E22 K23 (by have := yR.2 6 _ _ rfl 44; omega)), ⟨E22.2.1, fun w9 => by skip; have := E22.w2 w9; omega⟩, (fun w9 => by skip; omega)⟩
      · refine mv_iconst (v := 1) d_TrustDeskModel_isWell_7 (by decide) ?_
        refine mv_goto (tgt := 12) d_TrustDeskModel_isWell_8 (by decide) ?_
        refine mv_iret d_TrustDeskModel_isWell_12 rfl (by decide) ?_
        refine mv_if_ne_t (tgt := 43) d_TrustDeskModel_readRule_39 (by decide) (by decide) ?_
        refine mv_aload_n d_TrustDeskModel_readRule_43 rfl rfl ?_
        refine mv_iload_n d_TrustDeskModel_readRule_44 rfl rfl ?_
        obtain ⟨_, b41, -⟩ := I8.1 _ _ t13
        refine mv_callV (kc' := 0) (ks' := 0) (As := [.int v10]) (st9 := [.int v10, .ref o0]) d_TrustDeskModel_readRule_45 lV_TrustDeskModel_342 b41 rfl (tc_TrustDeskModel_begin_x (d := (d + 22)) (x9 := x9) (o0 := o0) (x1 := v10) t13 R11 E22.1 (E22.s yS (by decide)) (by have := R11.1 15 _ _ rfl; have := R11.1 16 _ _ rfl; have := R11.1 19 _ _ rfl; omega) (by have := R11.1 15 _ _ rfl; have := R11.1 16 _ _ rfl; have := R11.1 19 _ _ rfl; omega) (by have := R11.1 15 _ _ rfl; have := R11.1 16 _ _ rfl; have := R11.1 19 _ _ rfl; omega) I8.start) rfl (Nat.le_of_ble_eq_true rfl) (Nat.le_of_ble_eq_true rfl) (Nat.le_of_ble_eq_true rfl) (hst := rfl) (fun b35r M36 n37 b35 => ?_)
        obtain ⟨T38, J39, v42, rfl, R43, f44, f45, f46, f47, f48, f49⟩ := b35
        have I40 := I8.call J39 (tm_sub (by decide)) (Or.inl rfl)
        have t50 := J39.up t13
        have := f44.2.1
        have f51 := Im.i f44.w.2
        have f52 := Im.i f44.w2
        have z53 := (rv_c I8 J39 (I8.up h_o0) (k := 19) rfl).trans z17
        have z54 := (rv_c I8 J39 (I8.up h_o0) (k := 22) rfl).trans z18
        have z55 := (rv_c I8 J39 (I8.up h_o0) (k := 24) rfl).trans z19
        have z56 := (ra_call I8 J39 (I8.up h_o0) (k := 5) rfl rfl rfl 44).trans z20
        have E57 : rE M0 M36 o0 0 1 := E22.trans f44 (by decide) (yR.2 5 _ _ rfl 44).1 (by decide) (by decide)
        have h58 : (880 + ra M4 o0 6 44).toNat = (880 + ra M0 o0 6 44).toNat := by omega
        rw [h58] at f47 f48 f49
        have K59 : rK M0 M36 o0 ((880 + ra M0 o0 6 44).toNat) := K23.trans f49
        have K60 : nN M36 o0 := K24.same (sA_c I8 J39 (I8.up h_o0) (by decide)) (sF_c I8 J39 (I8.up h_o0) (by decide))
        clear z18 z19
        have q61 := J39.keep t13 (by decide) q26
        have t62 := J39.up t_a27
        have q63 := J39.keep t13 (by decide) q32
        refine mv_istore_n (lv' := [(2, .int v42), (1, .int v10), (0, .ref o0)]) d_TrustDeskModel_readRule_48 rfl (by decide) rfl ?_
        refine mv_iload_n d_TrustDeskModel_readRule_49 rfl rfl ?_
        refine mv_bipush (v := 6) d_TrustDeskModel_readRule_50 (by decide) ?_
        have := mz_hi v10
        refine mv_icmp_neZ (tgt := 171) (a := v10.toInt) (b := 6) d_TrustDeskModel_readRule_52 (by decide) rfl (by decide) (fun b64 => ?_) (fun b64 => ?_)
        · refine mv_iload_n d_TrustDeskModel_readRule_171 rfl rfl ?_
          refine mv_iconst (v := 1) d_TrustDeskModel_readRule_172 (by decide) ?_
          have := mz_hi v10
          refine mv_icmp_eqZ (tgt := 181) (a := v10.toInt) (b := 1) d_TrustDeskModel_readRule_173 (by decide) rfl (by decide) (fun b65 => ?_) (fun b65 => ?_)
          · refine mv_iconst (v := 0) d_TrustDeskModel_readRule_181 (by decide) ?_
            refine mv_goto (tgt := 186) d_TrustDeskModel_readRule_182 (by decide) ?_
            refine mv_istore_n (lv' := [(3, .int 0), (2, .int v42), (1, .int v10), (0, .ref o0)]) d_TrustDeskModel_readRule_186 rfl (by decide) rfl ?_
            refine mv_aload_n d_TrustDeskModel_readRule_187 rfl rfl ?_
            obtain ⟨a67, q66, t_a67⟩ := tm_atR I40 t50 (k := 8) rfl
            refine tr_getK q66 d_TrustDeskModel_readRule_188 f_TrustDeskModel_29_13 ?_
            refine mv_iload_n d_TrustDeskModel_readRule_191 rfl rfl ?_
            refine mv_aload_n d_TrustDeskModel_readRule_192 rfl rfl ?_
            refine mv_iload_n d_TrustDeskModel_readRule_193 rfl rfl ?_
            refine mv_iload_n d_TrustDeskModel_readRule_194 rfl rfl ?_
            have := mz_hi v10
            refine mv_if_neZ (tgt := 203) (a := v10.toInt) d_TrustDeskModel_readRule_195 (by decide) rfl (fun b68 => ?_) (fun b68 => absurd b68 (by omega))
            refine mv_iload_n d_TrustDeskModel_readRule_203 rfl rfl ?_
            refine mv_iconst (v := 1) d_TrustDeskModel_readRule_204 (by decide) ?_
            have := mz_hi v10
            refine mv_icmp_neZ (tgt := 213) (a := v10.toInt) (b := 1) d_TrustDeskModel_readRule_205 (by decide) rfl (by decide) (fun b69 => absurd b69 (by omega)) (fun b69 => ?_)
            refine mv_bipush (v := 8) d_TrustDeskModel_readRule_208 (by decide) ?_
            refine mv_goto (tgt := 247) d_TrustDeskModel_readRule_210 (by decide) ?_
            obtain ⟨_, b76, -⟩ := I40.1 _ _ t50
            have : (0 : Int32).toInt = 0 := by decide
            have : (8 : Int32).toInt = 8 := by decide
            refine mv_callV (kc' := 0) (ks' := 0) (As := [.int 0, .int 8]) (st9 := [.int 8, .int 0, .ref o0, .int v42, .ref a67]) d_TrustDeskModel_readRule_247 lV_TrustDeskModel_317 b76 rfl (tc_TrustDeskModel_number_x (d := (d + 22)) (x9 := x9) (o0 := o0) (x1 := 0) (x2 := 8) t50 R43 E57.1 (E57.s yS (by decide)) I40.start) rfl (Nat.le_of_ble_eq_true rfl) (Nat.le_of_ble_eq_true rfl) (Nat.le_of_ble_eq_true rfl) (hst := rfl) (fun b70r M71 n72 b70 => ?_)
            obtain ⟨T73, J74, v77, rfl, R78, f79, f80⟩ := b70
            have I75 := I40.call J74 (tm_sub (by decide)) (Or.inl rfl)
            have t81 := J74.up t50
            have t82 := J74.up t_a67
            have := f79.2.1
            have f83 := Im.i f79.w.2
            have f84 := Im.i f79.w2
            have z85 := (rv_c I40 J74 (I40.up h_o0) (k := 22) rfl).trans z54
            have z86 := (rv_c I40 J74 (I40.up h_o0) (k := 24) rfl).trans z55
            have z87 := (ra_call I40 J74 (I40.up h_o0) (k := 5) rfl rfl rfl 44).trans z56
            have z88 := (ra_call I40 J74 (I40.up h_o0) (k := 6) rfl rfl rfl 44)
            have z89 := (ra_call I40 J74 (I40.up h_o0) (k := 7) rfl rfl rfl ((880 + ra M0 o0 6 44).toNat))
            have z90 := (ra_call I40 J74 (I40.up h_o0) (k := 10) rfl rfl rfl ((880 + ra M0 o0 6 44).toNat))
            have E91 : rE M0 M71 o0 0 2 := E57.trans f79 (by decide) (yR.2 5 _ _ rfl 44).1 (by decide) (by decide)
            have K92 : rK M0 M71 o0 ((880 + ra M0 o0 6 44).toNat) := K59.same (sA_c I40 J74 (I40.up h_o0) (by decide))
            have K93 : nN M71 o0 := K60.same (sA_c I40 J74 (I40.up h_o0) (by decide)) (sF_c I40 J74 (I40.up h_o0) (by decide))
            clear z54 z55 z56
            have q94 := J74.keep t50 (by decide) q61
            have t95 := J74.up t62
            have q96 := J74.keep t50 (by decide) q66
            refine tr_iastR (k := 8) I75 R78 (I75.up h_o0) q96 t82 (by decide) (by decide) (fun lo hi h => by cases h; have := R78.1 15 _ _ rfl; have := R78.1 16 _ _ rfl; have := R78.1 19 _ _ rfl; exact ⟨by show ((-1) : Int) ≤ v77.toInt; omega, by show v77.toInt ≤ (720 : Int); omega⟩) (Or.inl (by decide)) d_TrustDeskModel_readRule_250 (vp_in_iff.mpr (by have := R78.1 15 _ _ rfl; have := R78.1 16 _ _ rfl; have := R78.1 19 _ _ rfl; omega)) (fun M97 I98 K99 R100 E101 A102 V103 => ?_)
            have z104 := (V103 15)
            have z105 := (V103 16)
            have z106 := (V103 17)
            have z107 := (V103 19)
            have z108 := (V103 22).trans z85
            have z109 := (V103 24).trans z86
            have z110 := (A102 5 (by decide) rfl 44).trans z87
            have z111 := (A102 6 (by decide) rfl 44).trans z88
            have z112 := (A102 7 (by decide) rfl ((880 + ra M0 o0 6 44).toNat)).trans z89
            have z113 := (A102 10 (by decide) rfl ((880 + ra M0 o0 6 44).toNat)).trans z90
            have E114 : rE M0 M97 o0 0 2 := E91.same (fun k _ _ => V103 k) (fun k h1 h2 => A102 k (by omega) (by rcases (show k = 4 ∨ k = 5 by omega) with rfl | rfl <;> rfl))
            have h115 : (880 + ra M0 o0 6 44).toNat = v42.toNatClampNeg := by have := mz_nat9 (i := v42) (by have := R78.1 15 _ _ rfl; have := R78.1 16 _ _ rfl; have := R78.1 19 _ _ rfl; omega); have := R78.1 15 _ _ rfl; have := R78.1 16 _ _ rfl; have := R78.1 19 _ _ rfl; omega
            have z116 : ra M97 o0 8 ((880 + ra M0 o0 6 44).toNat) = v77.toInt := (E101 _).trans (if_pos h115)
            have K117 : rK M0 M97 o0 ((880 + ra M0 o0 6 44).toNat) := K92.st A102 E101 (by have := mz_nat9 (i := v42) (by have := R78.1 15 _ _ rfl; have := R78.1 16 _ _ rfl; have := R78.1 19 _ _ rfl; omega); have := R78.1 15 _ _ rfl; have := R78.1 16 _ _ rfl; have := R78.1 19 _ _ rfl; omega)
            have K118 : nN M97 o0 := K93.same (sA_a A102 (by decide)) (sF_a V103)
            clear z85 z86 z87 z88 z89 z90
            refine mv_aload_n d_TrustDeskModel_readRule_251 rfl rfl ?_
            refine mv_bipush (v := 59) d_TrustDeskModel_readRule_252 (by decide) ?_
            obtain ⟨_, b125, -⟩ := I98.1 _ _ t81
            have : (59 : Int32).toInt = 59 := by decide
            refine mv_callV (kc' := 0) (ks' := 0) (As := [.int 59]) (st9 := [.int 59, .ref o0]) d_TrustDeskModel_readRule_254 lV_TrustDeskModel_291 b125 rfl (tc_TrustDeskModel_wantSign_x (d := (d + 22)) (x9 := x9) (o0 := o0) (x1 := 59) t81 R100 E114.1 (E114.s yS (by decide)) I98.start) rfl (Nat.le_of_ble_eq_true rfl) (Nat.le_of_ble_eq_true rfl) (Nat.le_of_ble_eq_true rfl) (hst := rfl) (fun b119r M120 n121 b119 => ?_)
            obtain ⟨T122, J123, rfl, R126, f127⟩ := b119
            have I124 := I98.call J123 (tm_sub (by decide)) (Or.inl rfl)
            have t128 := J123.up t81
            have := f127.2.1
            have f129 := Im.i f127.w.2
            have f130 := Im.i f127.w2
            have z131 := (rv_c I98 J123 (I98.up h_o0) (k := 22) rfl).trans z108
            have z132 := (rv_c I98 J123 (I98.up h_o0) (k := 24) rfl).trans z109
            have z133 := (ra_call I98 J123 (I98.up h_o0) (k := 5) rfl rfl rfl 44).trans z110
            have z134 := (ra_call I98 J123 (I98.up h_o0) (k := 6) rfl rfl rfl 44).trans z111
            have z135 := (ra_call I98 J123 (I98.up h_o0) (k := 7) rfl rfl rfl ((880 + ra M0 o0 6 44).toNat)).trans z112
            have z136 := (ra_call I98 J123 (I98.up h_o0) (k := 10) rfl rfl rfl ((880 + ra M0 o0 6 44).toNat)).trans z113
            have z137 := (ra_call I98 J123 (I98.up h_o0) (k := 8) rfl rfl rfl ((880 + ra M0 o0 6 44).toNat)).trans z116
            have E138 : rE M0 M120 o0 0 3 := E114.trans f127 (by decide) (yR.2 5 _ _ rfl 44).1 (by decide) (by decide)
            have K139 : rK M0 M120 o0 ((880 + ra M0 o0 6 44).toNat) := K117.same (sA_c I98 J123 (I98.up h_o0) (by decide))
            have K140 : nN M120 o0 := K118.same (sA_c I98 J123 (I98.up h_o0) (by decide)) (sF_c I98 J123 (I98.up h_o0) (by decide))
            clear z108 z109 z110 z111 z112 z113 z116
            have q141 := J123.keep t81 (by decide) (K99 _ 13 6 _ q94)
            have t142 := J123.up t95
            have q143 := J123.keep t81 (by decide) (K99 _ 13 8 _ q96)
            have t144 := J123.up t82
            refine mv_aload_n d_TrustDeskModel_readRule_257 rfl rfl ?_
            obtain ⟨a146, q145, t_a146⟩ := tm_atR I124 t128 (k := 12) rfl
            refine tr_getK q145 d_TrustDeskModel_readRule_258 f_TrustDeskModel_41_13 ?_
            refine mv_iload_n d_TrustDeskModel_readRule_261 rfl rfl ?_
            refine mv_aload_n d_TrustDeskModel_readRule_262 rfl rfl ?_
            obtain ⟨a148, q147, t_a148⟩ := tm_atR I124 t128 (k := 5) rfl
            refine tr_getK q147 d_TrustDeskModel_readRule_263 f_TrustDeskModel_20_13 ?_
            refine mv_bipush (v := 44) d_TrustDeskModel_readRule_266 (by decide) ?_
            refine tr_ialdR (o := o0) (k := 5) I124 q147 t_a148 (by decide) d_TrustDeskModel_readRule_268 (by unfold vp_in; decide) (fun v149 e150 => ?_)
            have := R126.a (k := 5) rfl (44 : Int32).toNatClampNeg
            have : v149.toInt = ra M120 o0 5 44 := e150
            have : v149.toInt = _ := Eq.trans e150 z133
            refine tr_iastR (k := 12) I124 R126 (I124.up h_o0) q145 t_a146 (by decide) (by decide) (fun lo hi h => by cases h; have := R126.1 15 _ _ rfl; have := R126.1 16 _ _ rfl; have := R126.1 19 _ _ rfl; exact ⟨by show (0 : Int) ≤ v149.toInt; omega, by show v149.toInt ≤ (400 : Int); omega⟩) (Or.inl (by decide)) d_TrustDeskModel_readRule_269 (vp_in_iff.mpr (by have := R126.1 15 _ _ rfl; have := R126.1 16 _ _ rfl; have := R126.1 19 _ _ rfl; omega)) (fun M151 I152 K153 R154 E155 A156 V157 => ?_)
            have z158 := (V157 15)
            have z159 := (V157 16)
            have z160 := (V157 17)
            have z161 := (V157 19)
            have z162 := (V157 22).trans z131
            have z163 := (V157 24).trans z132
            have z164 := (A156 5 (by decide) rfl 44).trans z133
            have z165 := (A156 6 (by decide) rfl 44).trans z134
            have z166 := (A156 7 (by decide) rfl ((880 + ra M0 o0 6 44).toNat)).trans z135
            have z167 := (A156 10 (by decide) rfl ((880 + ra M0 o0 6 44).toNat)).trans z136
            have z168 := (A156 8 (by decide) rfl ((880 + ra M0 o0 6 44).toNat)).trans z137
            have E169 : rE M0 M151 o0 0 3 := E138.same (fun k _ _ => V157 k) (fun k h1 h2 => A156 k (by omega) (by rcases (show k = 4 ∨ k = 5 by omega) with rfl | rfl <;> rfl))
            have h170 : (880 + ra M0 o0 6 44).toNat = v42.toNatClampNeg := by have := mz_nat9 (i := v42) (by have := R126.1 15 _ _ rfl; have := R126.1 16 _ _ rfl; have := R126.1 19 _ _ rfl; omega); have := R126.1 15 _ _ rfl; have := R126.1 16 _ _ rfl; have := R126.1 19 _ _ rfl; omega
            have z171 : ra M151 o0 12 ((880 + ra M0 o0 6 44).toNat) = v149.toInt := (E155 _).trans (if_pos h170)
            have K172 : rK M0 M151 o0 ((880 + ra M0 o0 6 44).toNat) := K139.st A156 E155 (by have := mz_nat9 (i := v42) (by have := R126.1 15 _ _ rfl; have := R126.1 16 _ _ rfl; have := R126.1 19 _ _ rfl; omega); have := R126.1 15 _ _ rfl; have := R126.1 16 _ _ rfl; have := R126.1 19 _ _ rfl; omega)
            have K173 : nN M151 o0 := K140.same (sA_a A156 (by decide)) (sF_a V157)
            clear z131 z132 z133 z134 z135 z136 z137
            exact mv_vret d_TrustDeskModel_readRule_270 rfl ⟨_, I152, rfl, R154, (rW.of E169.1 (E169.s yS (by decide)) (fun w9 => by have u91 : rv M120 o0 19 = 0 := (by omega); have := f129.o u91; have := f130.o u91; have u92 : rv M71 o0 19 = 0 := (by omega); have := f83.o u92; have := f84.o u92; have u93 : rv M36 o0 19 = 0 := (by omega); have := f51.o u93; have := f52.o u93; exact rG.step yG yR E169 w9 K172 (by have := yR.2 6 _ _ rfl 44; omega) (by have := R154.1 15 _ _ rfl; have := R154.1 16 _ _ rfl; have := R154.1 19 _ _ rfl; omega) (by have := R154.1 15 _ _ rfl; have := R154.1 16 _ _ rfl; have := R154.1 19 _ _ rfl; omega) (fun h9 => by exfalso; have := R154.1 15 _ _ rfl; have := R154.1 16 _ _ rfl; have := R154.1 19 _ _ rfl; omega) (fun h9 => (by have := R154.1 15 _ _ rfl; have := R154.1 16 _ _ rfl; have := R154.1 19 _ _ rfl; omega)) (by have := R154.1 15 _ _ rfl; have := R154.1 16 _ _ rfl; have := R154.1 19 _ _ rfl; omega) K173)), (rO.of E169 K172 (by have := yR.2 6 _ _ rfl 44; omega)), ⟨E169.2.1, fun w9 => by skip; have := E169.w2 w9; omega⟩, (fun w9 => by have u91 : rv M120 o0 19 = 0 := (by omega); have := f129.o u91; have := f130.o u91; have u92 : rv M71 o0 19 = 0 := (by omega); have := f83.o u92; have := f84.o u92; have u93 : rv M36 o0 19 = 0 := (by omega); have := f51.o u93; have := f52.o u93; omega)⟩
          · refine mv_iload_n d_TrustDeskModel_readRule_176 rfl rfl ?_
            refine mv_iconst (v := 4) d_TrustDeskModel_readRule_177 (by decide) ?_
            have := mz_hi v10
            refine mv_icmp_neZ (tgt := 185) (a := v10.toInt) (b := 4) d_TrustDeskModel_readRule_178 (by decide) rfl (by decide) (fun b174 => ?_) (fun b174 => ?_)
            · refine mv_iconst (v := 1) d_TrustDeskModel_readRule_185 (by decide) ?_
              refine mv_istore_n (lv' := [(3, .int 1), (2, .int v42), (1, .int v10), (0, .ref o0)]) d_TrustDeskModel_readRule_186 rfl (by decide) rfl ?_
              refine mv_aload_n d_TrustDeskModel_readRule_187 rfl rfl ?_
              obtain ⟨a176, q175, t_a176⟩ := tm_atR I40 t50 (k := 8) rfl
              refine tr_getK q175 d_TrustDeskModel_readRule_188 f_TrustDeskModel_29_13 ?_
              refine mv_iload_n d_TrustDeskModel_readRule_191 rfl rfl ?_
              refine mv_aload_n d_TrustDeskModel_readRule_192 rfl rfl ?_
              refine mv_iload_n d_TrustDeskModel_readRule_193 rfl rfl ?_
              refine mv_iload_n d_TrustDeskModel_readRule_194 rfl rfl ?_
              have := mz_hi v10
              refine mv_if_neZ (tgt := 203) (a := v10.toInt) d_TrustDeskModel_readRule_195 (by decide) rfl (fun b177 => ?_) (fun b177 => ?_)
              · refine mv_iload_n d_TrustDeskModel_readRule_203 rfl rfl ?_
                refine mv_iconst (v := 1) d_TrustDeskModel_readRule_204 (by decide) ?_
                have := mz_hi v10
                refine mv_icmp_neZ (tgt := 213) (a := v10.toInt) (b := 1) d_TrustDeskModel_readRule_205 (by decide) rfl (by decide) (fun b178 => ?_) (fun b178 => ?_)
                · refine mv_iload_n d_TrustDeskModel_readRule_213 rfl rfl ?_
                  refine mv_iconst (v := 2) d_TrustDeskModel_readRule_214 (by decide) ?_
                  have := mz_hi v10
                  refine mv_icmp_neZ (tgt := 224) (a := v10.toInt) (b := 2) d_TrustDeskModel_readRule_215 (by decide) rfl (by decide) (fun b179 => ?_) (fun b179 => ?_)
                  · refine mv_iload_n d_TrustDeskModel_readRule_224 rfl rfl ?_
                    refine mv_iconst (v := 3) d_TrustDeskModel_readRule_225 (by decide) ?_
                    have := mz_hi v10
                    refine mv_icmp_neZ (tgt := 235) (a := v10.toInt) (b := 3) d_TrustDeskModel_readRule_226 (by decide) rfl (by decide) (fun b180 => ?_) (fun b180 => ?_)
                    · refine mv_iload_n d_TrustDeskModel_readRule_235 rfl rfl ?_
                      refine mv_iconst (v := 4) d_TrustDeskModel_readRule_236 (by decide) ?_
                      have := mz_hi v10
                      refine mv_icmp_neZ (tgt := 245) (a := v10.toInt) (b := 4) d_TrustDeskModel_readRule_237 (by decide) rfl (by decide) (fun b181 => ?_) (fun b181 => ?_)
                      · refine mv_bipush (v := 40) d_TrustDeskModel_readRule_245 (by decide) ?_
                        obtain ⟨_, b188, -⟩ := I40.1 _ _ t50
                        have : (1 : Int32).toInt = 1 := by decide
                        have : (40 : Int32).toInt = 40 := by decide
                        refine mv_callV (kc' := 0) (ks' := 0) (As := [.int 1, .int 40]) (st9 := [.int 40, .int 1, .ref o0, .int v42, .ref a176]) d_TrustDeskModel_readRule_247 lV_TrustDeskModel_317 b188 rfl (tc_TrustDeskModel_number_x (d := (d + 22)) (x9 := x9) (o0 := o0) (x1 := 1) (x2 := 40) t50 R43 E57.1 (E57.s yS (by decide)) I40.start) rfl (Nat.le_of_ble_eq_true rfl) (Nat.le_of_ble_eq_true rfl) (Nat.le_of_ble_eq_true rfl) (hst := rfl) (fun b182r M183 n184 b182 => ?_)
                        obtain ⟨T185, J186, v189, rfl, R190, f191, f192⟩ := b182
                        have I187 := I40.call J186 (tm_sub (by decide)) (Or.inl rfl)
                        have t193 := J186.up t50
                        have t194 := J186.up t_a176
                        have := f191.2.1
                        have f195 := Im.i f191.w.2
                        have f196 := Im.i f191.w2
                        have z197 := (rv_c I40 J186 (I40.up h_o0) (k := 22) rfl).trans z54
                        have z198 := (rv_c I40 J186 (I40.up h_o0) (k := 24) rfl).trans z55
                        have z199 := (ra_call I40 J186 (I40.up h_o0) (k := 5) rfl rfl rfl 44).trans z56
                        have z200 := (ra_call I40 J186 (I40.up h_o0) (k := 6) rfl rfl rfl 44)
                        have z201 := (ra_call I40 J186 (I40.up h_o0) (k := 7) rfl rfl rfl ((880 + ra M0 o0 6 44).toNat))
                        have z202 := (ra_call I40 J186 (I40.up h_o0) (k := 10) rfl rfl rfl ((880 + ra M0 o0 6 44).toNat))
                        have E203 : rE M0 M183 o0 0 2 := E57.trans f191 (by decide) (yR.2 5 _ _ rfl 44).1 (by decide) (by decide)
                        have K204 : rK M0 M183 o0 ((880 + ra M0 o0 6 44).toNat) := K59.same (sA_c I40 J186 (I40.up h_o0) (by decide))
                        have K205 : nN M183 o0 := K60.same (sA_c I40 J186 (I40.up h_o0) (by decide)) (sF_c I40 J186 (I40.up h_o0) (by decide))
                        clear z54 z55 z56
                        have q206 := J186.keep t50 (by decide) q61
                        have t207 := J186.up t62
                        have q208 := J186.keep t50 (by decide) q175
                        refine tr_iastR (k := 8) I187 R190 (I187.up h_o0) q208 t194 (by decide) (by decide) (fun lo hi h => by cases h; have := R190.1 15 _ _ rfl; have := R190.1 16 _ _ rfl; have := R190.1 19 _ _ rfl; exact ⟨by show ((-1) : Int) ≤ v189.toInt; omega, by show v189.toInt ≤ (720 : Int); omega⟩) (Or.inl (by decide)) d_TrustDeskModel_readRule_250 (vp_in_iff.mpr (by have := R190.1 15 _ _ rfl; have := R190.1 16 _ _ rfl; have := R190.1 19 _ _ rfl; omega)) (fun M209 I210 K211 R212 E213 A214 V215 => ?_)
                        have z216 := (V215 15)
                        have z217 := (V215 16)
                        have z218 := (V215 17)
                        have z219 := (V215 19)
                        have z220 := (V215 22).trans z197
                        have z221 := (V215 24).trans z198
                        have z222 := (A214 5 (by decide) rfl 44).trans z199
                        have z223 := (A214 6 (by decide) rfl 44).trans z200
                        have z224 := (A214 7 (by decide) rfl ((880 + ra M0 o0 6 44).toNat)).trans z201
                        have z225 := (A214 10 (by decide) rfl ((880 + ra M0 o0 6 44).toNat)).trans z202
                        have E226 : rE M0 M209 o0 0 2 := E203.same (fun k _ _ => V215 k) (fun k h1 h2 => A214 k (by omega) (by rcases (show k = 4 ∨ k = 5 by omega) with rfl | rfl <;> rfl))
                        have h227 : (880 + ra M0 o0 6 44).toNat = v42.toNatClampNeg := by have := mz_nat9 (i := v42) (by have := R190.1 15 _ _ rfl; have := R190.1 16 _ _ rfl; have := R190.1 19 _ _ rfl; omega); have := R190.1 15 _ _ rfl; have := R190.1 16 _ _ rfl; have := R190.1 19 _ _ rfl; omega
                        have z228 : ra M209 o0 8 ((880 + ra M0 o0 6 44).toNat) = v189.toInt := (E213 _).trans (if_pos h227)
                        have K229 : rK M0 M209 o0 ((880 + ra M0 o0 6 44).toNat) := K204.st A214 E213 (by have := mz_nat9 (i := v42) (by have := R190.1 15 _ _ rfl; have := R190.1 16 _ _ rfl; have := R190.1 19 _ _ rfl; omega); have := R190.1 15 _ _ rfl; have := R190.1 16 _ _ rfl; have := R190.1 19 _ _ rfl; omega)
                        have K230 : nN M209 o0 := K205.same (sA_a A214 (by decide)) (sF_a V215)
                        clear z197 z198 z199 z200 z201 z202
                        refine mv_aload_n d_TrustDeskModel_readRule_251 rfl rfl ?_
                        refine mv_bipush (v := 59) d_TrustDeskModel_readRule_252 (by decide) ?_
                        obtain ⟨_, b237, -⟩ := I210.1 _ _ t193
                        have : (59 : Int32).toInt = 59 := by decide
                        refine mv_callV (kc' := 0) (ks' := 0) (As := [.int 59]) (st9 := [.int 59, .ref o0]) d_TrustDeskModel_readRule_254 lV_TrustDeskModel_291 b237 rfl (tc_TrustDeskModel_wantSign_x (d := (d + 22)) (x9 := x9) (o0 := o0) (x1 := 59) t193 R212 E226.1 (E226.s yS (by decide)) I210.start) rfl (Nat.le_of_ble_eq_true rfl) (Nat.le_of_ble_eq_true rfl) (Nat.le_of_ble_eq_true rfl) (hst := rfl) (fun b231r M232 n233 b231 => ?_)
                        obtain ⟨T234, J235, rfl, R238, f239⟩ := b231
                        have I236 := I210.call J235 (tm_sub (by decide)) (Or.inl rfl)
                        have t240 := J235.up t193
                        have := f239.2.1
                        have f241 := Im.i f239.w.2
                        have f242 := Im.i f239.w2
                        have z243 := (rv_c I210 J235 (I210.up h_o0) (k := 22) rfl).trans z220
                        have z244 := (rv_c I210 J235 (I210.up h_o0) (k := 24) rfl).trans z221
                        have z245 := (ra_call I210 J235 (I210.up h_o0) (k := 5) rfl rfl rfl 44).trans z222
                        have z246 := (ra_call I210 J235 (I210.up h_o0) (k := 6) rfl rfl rfl 44).trans z223
                        have z247 := (ra_call I210 J235 (I210.up h_o0) (k := 7) rfl rfl rfl ((880 + ra M0 o0 6 44).toNat)).trans z224
                        have z248 := (ra_call I210 J235 (I210.up h_o0) (k := 10) rfl rfl rfl ((880 + ra M0 o0 6 44).toNat)).trans z225
                        have z249 := (ra_call I210 J235 (I210.up h_o0) (k := 8) rfl rfl rfl ((880 + ra M0 o0 6 44).toNat)).trans z228
                        have E250 : rE M0 M232 o0 0 3 := E226.trans f239 (by decide) (yR.2 5 _ _ rfl 44).1 (by decide) (by decide)
                        have K251 : rK M0 M232 o0 ((880 + ra M0 o0 6 44).toNat) := K229.same (sA_c I210 J235 (I210.up h_o0) (by decide))
                        have K252 : nN M232 o0 := K230.same (sA_c I210 J235 (I210.up h_o0) (by decide)) (sF_c I210 J235 (I210.up h_o0) (by decide))
                        clear z220 z221 z222 z223 z224 z225 z228
                        have q253 := J235.keep t193 (by decide) (K211 _ 13 6 _ q206)
                        have t254 := J235.up t207
                        have q255 := J235.keep t193 (by decide) (K211 _ 13 8 _ q208)
                        have t256 := J235.up t194
                        refine mv_aload_n d_TrustDeskModel_readRule_257 rfl rfl ?_
                        obtain ⟨a258, q257, t_a258⟩ := tm_atR I236 t240 (k := 12) rfl
                        refine tr_getK q257 d_TrustDeskModel_readRule_258 f_TrustDeskModel_41_13 ?_
                        refine mv_iload_n d_TrustDeskModel_readRule_261 rfl rfl ?_
                        refine mv_aload_n d_TrustDeskModel_readRule_262 rfl rfl ?_
                        obtain ⟨a260, q259, t_a260⟩ := tm_atR I236 t240 (k := 5) rfl
                        refine tr_getK q259 d_TrustDeskModel_readRule_263 f_TrustDeskModel_20_13 ?_
                        refine mv_bipush (v := 44) d_TrustDeskModel_readRule_266 (by decide) ?_
                        refine tr_ialdR (o := o0) (k := 5) I236 q259 t_a260 (by decide) d_TrustDeskModel_readRule_268 (by unfold vp_in; decide) (fun v261 e262 => ?_)
                        have := R238.a (k := 5) rfl (44 : Int32).toNatClampNeg
                        have : v261.toInt = ra M232 o0 5 44 := e262
                        have : v261.toInt = _ := Eq.trans e262 z245
                        refine tr_iastR (k := 12) I236 R238 (I236.up h_o0) q257 t_a258 (by decide) (by decide) (fun lo hi h => by cases h; have := R238.1 15 _ _ rfl; have := R238.1 16 _ _ rfl; have := R238.1 19 _ _ rfl; exact ⟨by show (0 : Int) ≤ v261.toInt; omega, by show v261.toInt ≤ (400 : Int); omega⟩) (Or.inl (by decide)) d_TrustDeskModel_readRule_269 (vp_in_iff.mpr (by have := R238.1 15 _ _ rfl; have := R238.1 16 _ _ rfl; have := R238.1 19 _ _ rfl; omega)) (fun M263 I264 K265 R266 E267 A268 V269 => ?_)
                        have z270 := (V269 15)
                        have z271 := (V269 16)
                        have z272 := (V269 17)
                        have z273 := (V269 19)
                        have z274 := (V269 22).trans z243
                        have z275 := (V269 24).trans z244
                        have z276 := (A268 5 (by decide) rfl 44).trans z245
                        have z277 := (A268 6 (by decide) rfl 44).trans z246
                        have z278 := (A268 7 (by decide) rfl ((880 + ra M0 o0 6 44).toNat)).trans z247
                        have z279 := (A268 10 (by decide) rfl ((880 + ra M0 o0 6 44).toNat)).trans z248
                        have z280 := (A268 8 (by decide) rfl ((880 + ra M0 o0 6 44).toNat)).trans z249
                        have E281 : rE M0 M263 o0 0 3 := E250.same (fun k _ _ => V269 k) (fun k h1 h2 => A268 k (by omega) (by rcases (show k = 4 ∨ k = 5 by omega) with rfl | rfl <;> rfl))
                        have h282 : (880 + ra M0 o0 6 44).toNat = v42.toNatClampNeg := by have := mz_nat9 (i := v42) (by have := R238.1 15 _ _ rfl; have := R238.1 16 _ _ rfl; have := R238.1 19 _ _ rfl; omega); have := R238.1 15 _ _ rfl; have := R238.1 16 _ _ rfl; have := R238.1 19 _ _ rfl; omega
                        have z283 : ra M263 o0 12 ((880 + ra M0 o0 6 44).toNat) = v261.toInt := (E267 _).trans (if_pos h282)
                        have K284 : rK M0 M263 o0 ((880 + ra M0 o0 6 44).toNat) := K251.st A268 E267 (by have := mz_nat9 (i := v42) (by have := R238.1 15 _ _ rfl; have := R238.1 16 _ _ rfl; have := R238.1 19 _ _ rfl; omega); have := R238.1 15 _ _ rfl; have := R238.1 16 _ _ rfl; have := R238.1 19 _ _ rfl; omega)
                        have K285 : nN M263 o0 := K252.same (sA_a A268 (by decide)) (sF_a V269)
                        clear z243 z244 z245 z246 z247 z248 z249
                        exact mv_vret d_TrustDeskModel_readRule_270 rfl ⟨_, I264, rfl, R266, (rW.of E281.1 (E281.s yS (by decide)) (fun w9 => by have u91 : rv M232 o0 19 = 0 := (by omega); have := f241.o u91; have := f242.o u91; have u92 : rv M183 o0 19 = 0 := (by omega); have := f195.o u92; have := f196.o u92; have u93 : rv M36 o0 19 = 0 := (by omega); have := f51.o u93; have := f52.o u93; exact rG.step yG yR E281 w9 K284 (by have := yR.2 6 _ _ rfl 44; omega) (by have := R266.1 15 _ _ rfl; have := R266.1 16 _ _ rfl; have := R266.1 19 _ _ rfl; omega) (by have := R266.1 15 _ _ rfl; have := R266.1 16 _ _ rfl; have := R266.1 19 _ _ rfl; omega) (fun h9 => by exfalso; have := R266.1 15 _ _ rfl; have := R266.1 16 _ _ rfl; have := R266.1 19 _ _ rfl; omega) (fun h9 => (by have := R266.1 15 _ _ rfl; have := R266.1 16 _ _ rfl; have := R266.1 19 _ _ rfl; omega)) (by have := R266.1 15 _ _ rfl; have := R266.1 16 _ _ rfl; have := R266.1 19 _ _ rfl; omega) K285)), (rO.of E281 K284 (by have := yR.2 6 _ _ rfl 44; omega)), ⟨E281.2.1, fun w9 => by skip; have := E281.w2 w9; omega⟩, (fun w9 => by have u91 : rv M232 o0 19 = 0 := (by omega); have := f241.o u91; have := f242.o u91; have u92 : rv M183 o0 19 = 0 := (by omega); have := f195.o u92; have := f196.o u92; have u93 : rv M36 o0 19 = 0 := (by omega); have := f51.o u93; have := f52.o u93; omega)⟩
                      · refine mv_bipush (v := 20) d_TrustDeskModel_readRule_240 (by decide) ?_
                        refine mv_goto (tgt := 247) d_TrustDeskModel_readRule_242 (by decide) ?_
                        obtain ⟨_, b292, -⟩ := I40.1 _ _ t50
                        have : (1 : Int32).toInt = 1 := by decide
                        have : (20 : Int32).toInt = 20 := by decide
                        refine mv_callV (kc' := 0) (ks' := 0) (As := [.int 1, .int 20]) (st9 := [.int 20, .int 1, .ref o0, .int v42, .ref a176]) d_TrustDeskModel_readRule_247 lV_TrustDeskModel_317 b292 rfl (tc_TrustDeskModel_number_x (d := (d + 22)) (x9 := x9) (o0 := o0) (x1 := 1) (x2 := 20) t50 R43 E57.1 (E57.s yS (by decide)) I40.start) rfl (Nat.le_of_ble_eq_true rfl) (Nat.le_of_ble_eq_true rfl) (Nat.le_of_ble_eq_true rfl) (hst := rfl) (fun b286r M287 n288 b286 => ?_)
                        obtain ⟨T289, J290, v293, rfl, R294, f295, f296⟩ := b286
                        have I291 := I40.call J290 (tm_sub (by decide)) (Or.inl rfl)
                        have t297 := J290.up t50
                        have t298 := J290.up t_a176
                        have := f295.2.1
                        have f299 := Im.i f295.w.2
                        have f300 := Im.i f295.w2
                        have z301 := (rv_c I40 J290 (I40.up h_o0) (k := 22) rfl).trans z54
                        have z302 := (rv_c I40 J290 (I40.up h_o0) (k := 24) rfl).trans z55
                        have z303 := (ra_call I40 J290 (I40.up h_o0) (k := 5) rfl rfl rfl 44).trans z56
                        have z304 := (ra_call I40 J290 (I40.up h_o0) (k := 6) rfl rfl rfl 44)
                        have z305 := (ra_call I40 J290 (I40.up h_o0) (k := 7) rfl rfl rfl ((880 + ra M0 o0 6 44).toNat))
                        have z306 := (ra_call I40 J290 (I40.up h_o0) (k := 10) rfl rfl rfl ((880 + ra M0 o0 6 44).toNat))
                        have E307 : rE M0 M287 o0 0 2 := E57.trans f295 (by decide) (yR.2 5 _ _ rfl 44).1 (by decide) (by decide)
                        have K308 : rK M0 M287 o0 ((880 + ra M0 o0 6 44).toNat) := K59.same (sA_c I40 J290 (I40.up h_o0) (by decide))
                        have K309 : nN M287 o0 := K60.same (sA_c I40 J290 (I40.up h_o0) (by decide)) (sF_c I40 J290 (I40.up h_o0) (by decide))
                        clear z54 z55 z56
                        have q310 := J290.keep t50 (by decide) q61
                        have t311 := J290.up t62
                        have q312 := J290.keep t50 (by decide) q175
                        refine tr_iastR (k := 8) I291 R294 (I291.up h_o0) q312 t298 (by decide) (by decide) (fun lo hi h => by cases h; have := R294.1 15 _ _ rfl; have := R294.1 16 _ _ rfl; have := R294.1 19 _ _ rfl; exact ⟨by show ((-1) : Int) ≤ v293.toInt; omega, by show v293.toInt ≤ (720 : Int); omega⟩) (Or.inl (by decide)) d_TrustDeskModel_readRule_250 (vp_in_iff.mpr (by have := R294.1 15 _ _ rfl; have := R294.1 16 _ _ rfl; have := R294.1 19 _ _ rfl; omega)) (fun M313 I314 K315 R316 E317 A318 V319 => ?_)
                        have z320 := (V319 15)
                        have z321 := (V319 16)
                        have z322 := (V319 17)
                        have z323 := (V319 19)
                        have z324 := (V319 22).trans z301
                        have z325 := (V319 24).trans z302
                        have z326 := (A318 5 (by decide) rfl 44).trans z303
                        have z327 := (A318 6 (by decide) rfl 44).trans z304
                        have z328 := (A318 7 (by decide) rfl ((880 + ra M0 o0 6 44).toNat)).trans z305
                        have z329 := (A318 10 (by decide) rfl ((880 + ra M0 o0 6 44).toNat)).trans z306
                        have E330 : rE M0 M313 o0 0 2 := E307.same (fun k _ _ => V319 k) (fun k h1 h2 => A318 k (by omega) (by rcases (show k = 4 ∨ k = 5 by omega) with rfl | rfl <;> rfl))
                        have h331 : (880 + ra M0 o0 6 44).toNat = v42.toNatClampNeg := by have := mz_nat9 (i := v42) (by have := R294.1 15 _ _ rfl; have := R294.1 16 _ _ rfl; have := R294.1 19 _ _ rfl; omega); have := R294.1 15 _ _ rfl; have := R294.1 16 _ _ rfl; have := R294.1 19 _ _ rfl; omega
                        have z332 : ra M313 o0 8 ((880 + ra M0 o0 6 44).toNat) = v293.toInt := (E317 _).trans (if_pos h331)
                        have K333 : rK M0 M313 o0 ((880 + ra M0 o0 6 44).toNat) := K308.st A318 E317 (by have := mz_nat9 (i := v42) (by have := R294.1 15 _ _ rfl; have := R294.1 16 _ _ rfl; have := R294.1 19 _ _ rfl; omega); have := R294.1 15 _ _ rfl; have := R294.1 16 _ _ rfl; have := R294.1 19 _ _ rfl; omega)
                        have K334 : nN M313 o0 := K309.same (sA_a A318 (by decide)) (sF_a V319)
                        clear z301 z302 z303 z304 z305 z306
                        refine mv_aload_n d_TrustDeskModel_readRule_251 rfl rfl ?_
                        refine mv_bipush (v := 59) d_TrustDeskModel_readRule_252 (by decide) ?_
                        obtain ⟨_, b341, -⟩ := I314.1 _ _ t297
                        have : (59 : Int32).toInt = 59 := by decide
                        refine mv_callV (kc' := 0) (ks' := 0) (As := [.int 59]) (st9 := [.int 59, .ref o0]) d_TrustDeskModel_readRule_254 lV_TrustDeskModel_291 b341 rfl (tc_TrustDeskModel_wantSign_x (d := (d + 22)) (x9 := x9) (o0 := o0) (x1 := 59) t297 R316 E330.1 (E330.s yS (by decide)) I314.start) rfl (Nat.le_of_ble_eq_true rfl) (Nat.le_of_ble_eq_true rfl) (Nat.le_of_ble_eq_true rfl) (hst := rfl) (fun b335r M336 n337 b335 => ?_)
                        obtain ⟨T338, J339, rfl, R342, f343⟩ := b335
                        have I340 := I314.call J339 (tm_sub (by decide)) (Or.inl rfl)
                        have t344 := J339.up t297
                        have := f343.2.1
                        have f345 := Im.i f343.w.2
                        have f346 := Im.i f343.w2
                        have z347 := (rv_c I314 J339 (I314.up h_o0) (k := 22) rfl).trans z324
                        have z348 := (rv_c I314 J339 (I314.up h_o0) (k := 24) rfl).trans z325
                        have z349 := (ra_call I314 J339 (I314.up h_o0) (k := 5) rfl rfl rfl 44).trans z326
                        have z350 := (ra_call I314 J339 (I314.up h_o0) (k := 6) rfl rfl rfl 44).trans z327
                        have z351 := (ra_call I314 J339 (I314.up h_o0) (k := 7) rfl rfl rfl ((880 + ra M0 o0 6 44).toNat)).trans z328
                        have z352 := (ra_call I314 J339 (I314.up h_o0) (k := 10) rfl rfl rfl ((880 + ra M0 o0 6 44).toNat)).trans z329
                        have z353 := (ra_call I314 J339 (I314.up h_o0) (k := 8) rfl rfl rfl ((880 + ra M0 o0 6 44).toNat)).trans z332
                        have E354 : rE M0 M336 o0 0 3 := E330.trans f343 (by decide) (yR.2 5 _ _ rfl 44).1 (by decide) (by decide)
                        have K355 : rK M0 M336 o0 ((880 + ra M0 o0 6 44).toNat) := K333.same (sA_c I314 J339 (I314.up h_o0) (by decide))
                        have K356 : nN M336 o0 := K334.same (sA_c I314 J339 (I314.up h_o0) (by decide)) (sF_c I314 J339 (I314.up h_o0) (by decide))
                        clear z324 z325 z326 z327 z328 z329 z332
                        have q357 := J339.keep t297 (by decide) (K315 _ 13 6 _ q310)
                        have t358 := J339.up t311
                        have q359 := J339.keep t297 (by decide) (K315 _ 13 8 _ q312)
                        have t360 := J339.up t298
                        refine mv_aload_n d_TrustDeskModel_readRule_257 rfl rfl ?_
                        obtain ⟨a362, q361, t_a362⟩ := tm_atR I340 t344 (k := 12) rfl
                        refine tr_getK q361 d_TrustDeskModel_readRule_258 f_TrustDeskModel_41_13 ?_
                        refine mv_iload_n d_TrustDeskModel_readRule_261 rfl rfl ?_
                        refine mv_aload_n d_TrustDeskModel_readRule_262 rfl rfl ?_
                        obtain ⟨a364, q363, t_a364⟩ := tm_atR I340 t344 (k := 5) rfl
                        refine tr_getK q363 d_TrustDeskModel_readRule_263 f_TrustDeskModel_20_13 ?_
                        refine mv_bipush (v := 44) d_TrustDeskModel_readRule_266 (by decide) ?_
                        refine tr_ialdR (o := o0) (k := 5) I340 q363 t_a364 (by decide) d_TrustDeskModel_readRule_268 (by unfold vp_in; decide) (fun v365 e366 => ?_)
                        have := R342.a (k := 5) rfl (44 : Int32).toNatClampNeg
                        have : v365.toInt = ra M336 o0 5 44 := e366
                        have : v365.toInt = _ := Eq.trans e366 z349
                        refine tr_iastR (k := 12) I340 R342 (I340.up h_o0) q361 t_a362 (by decide) (by decide) (fun lo hi h => by cases h; have := R342.1 15 _ _ rfl; have := R342.1 16 _ _ rfl; have := R342.1 19 _ _ rfl; exact ⟨by show (0 : Int) ≤ v365.toInt; omega, by show v365.toInt ≤ (400 : Int); omega⟩) (Or.inl (by decide)) d_TrustDeskModel_readRule_269 (vp_in_iff.mpr (by have := R342.1 15 _ _ rfl; have := R342.1 16 _ _ rfl; have := R342.1 19 _ _ rfl; omega)) (fun M367 I368 K369 R370 E371 A372 V373 => ?_)
                        have z374 := (V373 15)
                        have z375 := (V373 16)
                        have z376 := (V373 17)
                        have z377 := (V373 19)
                        have z378 := (V373 22).trans z347
                        have z379 := (V373 24).trans z348
                        have z380 := (A372 5 (by decide) rfl 44).trans z349
                        have z381 := (A372 6 (by decide) rfl 44).trans z350
                        have z382 := (A372 7 (by decide) rfl ((880 + ra M0 o0 6 44).toNat)).trans z351
                        have z383 := (A372 10 (by decide) rfl ((880 + ra M0 o0 6 44).toNat)).trans z352
                        have z384 := (A372 8 (by decide) rfl ((880 + ra M0 o0 6 44).toNat)).trans z353
                        have E385 : rE M0 M367 o0 0 3 := E354.same (fun k _ _ => V373 k) (fun k h1 h2 => A372 k (by omega) (by rcases (show k = 4 ∨ k = 5 by omega) with rfl | rfl <;> rfl))
                        have h386 : (880 + ra M0 o0 6 44).toNat = v42.toNatClampNeg := by have := mz_nat9 (i := v42) (by have := R342.1 15 _ _ rfl; have := R342.1 16 _ _ rfl; have := R342.1 19 _ _ rfl; omega); have := R342.1 15 _ _ rfl; have := R342.1 16 _ _ rfl; have := R342.1 19 _ _ rfl; omega
                        have z387 : ra M367 o0 12 ((880 + ra M0 o0 6 44).toNat) = v365.toInt := (E371 _).trans (if_pos h386)
                        have K388 : rK M0 M367 o0 ((880 + ra M0 o0 6 44).toNat) := K355.st A372 E371 (by have := mz_nat9 (i := v42) (by have := R342.1 15 _ _ rfl; have := R342.1 16 _ _ rfl; have := R342.1 19 _ _ rfl; omega); have := R342.1 15 _ _ rfl; have := R342.1 16 _ _ rfl; have := R342.1 19 _ _ rfl; omega)
                        have K389 : nN M367 o0 := K356.same (sA_a A372 (by decide)) (sF_a V373)
                        clear z347 z348 z349 z350 z351 z352 z353
                        exact mv_vret d_TrustDeskModel_readRule_270 rfl ⟨_, I368, rfl, R370, (rW.of E385.1 (E385.s yS (by decide)) (fun w9 => by have u91 : rv M336 o0 19 = 0 := (by omega); have := f345.o u91; have := f346.o u91; have u92 : rv M287 o0 19 = 0 := (by omega); have := f299.o u92; have := f300.o u92; have u93 : rv M36 o0 19 = 0 := (by omega); have := f51.o u93; have := f52.o u93; exact rG.step yG yR E385 w9 K388 (by have := yR.2 6 _ _ rfl 44; omega) (by have := R370.1 15 _ _ rfl; have := R370.1 16 _ _ rfl; have := R370.1 19 _ _ rfl; omega) (by have := R370.1 15 _ _ rfl; have := R370.1 16 _ _ rfl; have := R370.1 19 _ _ rfl; omega) (fun h9 => by exfalso; have := R370.1 15 _ _ rfl; have := R370.1 16 _ _ rfl; have := R370.1 19 _ _ rfl; omega) (fun h9 => (by have := R370.1 15 _ _ rfl; have := R370.1 16 _ _ rfl; have := R370.1 19 _ _ rfl; omega)) (by have := R370.1 15 _ _ rfl; have := R370.1 16 _ _ rfl; have := R370.1 19 _ _ rfl; omega) K389)), (rO.of E385 K388 (by have := yR.2 6 _ _ rfl 44; omega)), ⟨E385.2.1, fun w9 => by skip; have := E385.w2 w9; omega⟩, (fun w9 => by have u91 : rv M336 o0 19 = 0 := (by omega); have := f345.o u91; have := f346.o u91; have u92 : rv M287 o0 19 = 0 := (by omega); have := f299.o u92; have := f300.o u92; have u93 : rv M36 o0 19 = 0 := (by omega); have := f51.o u93; have := f52.o u93; omega)⟩
                    · refine mv_sipush (v := 720) d_TrustDeskModel_readRule_229 (by decide) ?_
                      refine mv_goto (tgt := 247) d_TrustDeskModel_readRule_232 (by decide) ?_
                      obtain ⟨_, b396, -⟩ := I40.1 _ _ t50
                      have : (1 : Int32).toInt = 1 := by decide
                      have : (720 : Int32).toInt = 720 := by decide
                      refine mv_callV (kc' := 0) (ks' := 0) (As := [.int 1, .int 720]) (st9 := [.int 720, .int 1, .ref o0, .int v42, .ref a176]) d_TrustDeskModel_readRule_247 lV_TrustDeskModel_317 b396 rfl (tc_TrustDeskModel_number_x (d := (d + 22)) (x9 := x9) (o0 := o0) (x1 := 1) (x2 := 720) t50 R43 E57.1 (E57.s yS (by decide)) I40.start) rfl (Nat.le_of_ble_eq_true rfl) (Nat.le_of_ble_eq_true rfl) (Nat.le_of_ble_eq_true rfl) (hst := rfl) (fun b390r M391 n392 b390 => ?_)
                      obtain ⟨T393, J394, v397, rfl, R398, f399, f400⟩ := b390
                      have I395 := I40.call J394 (tm_sub (by decide)) (Or.inl rfl)
                      have t401 := J394.up t50
                      have t402 := J394.up t_a176
                      have := f399.2.1
                      have f403 := Im.i f399.w.2
                      have f404 := Im.i f399.w2
                      have z405 := (rv_c I40 J394 (I40.up h_o0) (k := 22) rfl).trans z54
                      have z406 := (rv_c I40 J394 (I40.up h_o0) (k := 24) rfl).trans z55
                      have z407 := (ra_call I40 J394 (I40.up h_o0) (k := 5) rfl rfl rfl 44).trans z56
                      have z408 := (ra_call I40 J394 (I40.up h_o0) (k := 6) rfl rfl rfl 44)
                      have z409 := (ra_call I40 J394 (I40.up h_o0) (k := 7) rfl rfl rfl ((880 + ra M0 o0 6 44).toNat))
                      have z410 := (ra_call I40 J394 (I40.up h_o0) (k := 10) rfl rfl rfl ((880 + ra M0 o0 6 44).toNat))
                      have E411 : rE M0 M391 o0 0 2 := E57.trans f399 (by decide) (yR.2 5 _ _ rfl 44).1 (by decide) (by decide)
                      have K412 : rK M0 M391 o0 ((880 + ra M0 o0 6 44).toNat) := K59.same (sA_c I40 J394 (I40.up h_o0) (by decide))
                      have K413 : nN M391 o0 := K60.same (sA_c I40 J394 (I40.up h_o0) (by decide)) (sF_c I40 J394 (I40.up h_o0) (by decide))
                      clear z54 z55 z56
                      have q414 := J394.keep t50 (by decide) q61
                      have t415 := J394.up t62
                      have q416 := J394.keep t50 (by decide) q175
                      refine tr_iastR (k := 8) I395 R398 (I395.up h_o0) q416 t402 (by decide) (by decide) (fun lo hi h => by cases h; have := R398.1 15 _ _ rfl; have := R398.1 16 _ _ rfl; have := R398.1 19 _ _ rfl; exact ⟨by show ((-1) : Int) ≤ v397.toInt; omega, by show v397.toInt ≤ (720 : Int); omega⟩) (Or.inl (by decide)) d_TrustDeskModel_readRule_250 (vp_in_iff.mpr (by have := R398.1 15 _ _ rfl; have := R398.1 16 _ _ rfl; have := R398.1 19 _ _ rfl; omega)) (fun M417 I418 K419 R420 E421 A422 V423 => ?_)
                      have z424 := (V423 15)
                      have z425 := (V423 16)
                      have z426 := (V423 17)
                      have z427 := (V423 19)
                      have z428 := (V423 22).trans z405
                      have z429 := (V423 24).trans z406
                      have z430 := (A422 5 (by decide) rfl 44).trans z407
                      have z431 := (A422 6 (by decide) rfl 44).trans z408
                      have z432 := (A422 7 (by decide) rfl ((880 + ra M0 o0 6 44).toNat)).trans z409
                      have z433 := (A422 10 (by decide) rfl ((880 + ra M0 o0 6 44).toNat)).trans z410
                      have E434 : rE M0 M417 o0 0 2 := E411.same (fun k _ _ => V423 k) (fun k h1 h2 => A422 k (by omega) (by rcases (show k = 4 ∨ k = 5 by omega) with rfl | rfl <;> rfl))
                      have h435 : (880 + ra M0 o0 6 44).toNat = v42.toNatClampNeg := by have := mz_nat9 (i := v42) (by have := R398.1 15 _ _ rfl; have := R398.1 16 _ _ rfl; have := R398.1 19 _ _ rfl; omega); have := R398.1 15 _ _ rfl; have := R398.1 16 _ _ rfl; have := R398.1 19 _ _ rfl; omega
                      have z436 : ra M417 o0 8 ((880 + ra M0 o0 6 44).toNat) = v397.toInt := (E421 _).trans (if_pos h435)
                      have K437 : rK M0 M417 o0 ((880 + ra M0 o0 6 44).toNat) := K412.st A422 E421 (by have := mz_nat9 (i := v42) (by have := R398.1 15 _ _ rfl; have := R398.1 16 _ _ rfl; have := R398.1 19 _ _ rfl; omega); have := R398.1 15 _ _ rfl; have := R398.1 16 _ _ rfl; have := R398.1 19 _ _ rfl; omega)
                      have K438 : nN M417 o0 := K413.same (sA_a A422 (by decide)) (sF_a V423)
                      clear z405 z406 z407 z408 z409 z410
                      refine mv_aload_n d_TrustDeskModel_readRule_251 rfl rfl ?_
                      refine mv_bipush (v := 59) d_TrustDeskModel_readRule_252 (by decide) ?_
                      obtain ⟨_, b445, -⟩ := I418.1 _ _ t401
                      have : (59 : Int32).toInt = 59 := by decide
                      refine mv_callV (kc' := 0) (ks' := 0) (As := [.int 59]) (st9 := [.int 59, .ref o0]) d_TrustDeskModel_readRule_254 lV_TrustDeskModel_291 b445 rfl (tc_TrustDeskModel_wantSign_x (d := (d + 22)) (x9 := x9) (o0 := o0) (x1 := 59) t401 R420 E434.1 (E434.s yS (by decide)) I418.start) rfl (Nat.le_of_ble_eq_true rfl) (Nat.le_of_ble_eq_true rfl) (Nat.le_of_ble_eq_true rfl) (hst := rfl) (fun b439r M440 n441 b439 => ?_)
                      obtain ⟨T442, J443, rfl, R446, f447⟩ := b439
                      have I444 := I418.call J443 (tm_sub (by decide)) (Or.inl rfl)
                      have t448 := J443.up t401
                      have := f447.2.1
                      have f449 := Im.i f447.w.2
                      have f450 := Im.i f447.w2
                      have z451 := (rv_c I418 J443 (I418.up h_o0) (k := 22) rfl).trans z428
                      have z452 := (rv_c I418 J443 (I418.up h_o0) (k := 24) rfl).trans z429
                      have z453 := (ra_call I418 J443 (I418.up h_o0) (k := 5) rfl rfl rfl 44).trans z430
                      have z454 := (ra_call I418 J443 (I418.up h_o0) (k := 6) rfl rfl rfl 44).trans z431
                      have z455 := (ra_call I418 J443 (I418.up h_o0) (k := 7) rfl rfl rfl ((880 + ra M0 o0 6 44).toNat)).trans z432
                      have z456 := (ra_call I418 J443 (I418.up h_o0) (k := 10) rfl rfl rfl ((880 + ra M0 o0 6 44).toNat)).trans z433
                      have z457 := (ra_call I418 J443 (I418.up h_o0) (k := 8) rfl rfl rfl ((880 + ra M0 o0 6 44).toNat)).trans z436
                      have E458 : rE M0 M440 o0 0 3 := E434.trans f447 (by decide) (yR.2 5 _ _ rfl 44).1 (by decide) (by decide)
                      have K459 : rK M0 M440 o0 ((880 + ra M0 o0 6 44).toNat) := K437.same (sA_c I418 J443 (I418.up h_o0) (by decide))
                      have K460 : nN M440 o0 := K438.same (sA_c I418 J443 (I418.up h_o0) (by decide)) (sF_c I418 J443 (I418.up h_o0) (by decide))
                      clear z428 z429 z430 z431 z432 z433 z436
                      have q461 := J443.keep t401 (by decide) (K419 _ 13 6 _ q414)
                      have t462 := J443.up t415
                      have q463 := J443.keep t401 (by decide) (K419 _ 13 8 _ q416)
                      have t464 := J443.up t402
                      refine mv_aload_n d_TrustDeskModel_readRule_257 rfl rfl ?_
                      obtain ⟨a466, q465, t_a466⟩ := tm_atR I444 t448 (k := 12) rfl
                      refine tr_getK q465 d_TrustDeskModel_readRule_258 f_TrustDeskModel_41_13 ?_
                      refine mv_iload_n d_TrustDeskModel_readRule_261 rfl rfl ?_
                      refine mv_aload_n d_TrustDeskModel_readRule_262 rfl rfl ?_
                      obtain ⟨a468, q467, t_a468⟩ := tm_atR I444 t448 (k := 5) rfl
                      refine tr_getK q467 d_TrustDeskModel_readRule_263 f_TrustDeskModel_20_13 ?_
                      refine mv_bipush (v := 44) d_TrustDeskModel_readRule_266 (by decide) ?_
                      refine tr_ialdR (o := o0) (k := 5) I444 q467 t_a468 (by decide) d_TrustDeskModel_readRule_268 (by unfold vp_in; decide) (fun v469 e470 => ?_)
                      have := R446.a (k := 5) rfl (44 : Int32).toNatClampNeg
                      have : v469.toInt = ra M440 o0 5 44 := e470
                      have : v469.toInt = _ := Eq.trans e470 z453
                      refine tr_iastR (k := 12) I444 R446 (I444.up h_o0) q465 t_a466 (by decide) (by decide) (fun lo hi h => by cases h; have := R446.1 15 _ _ rfl; have := R446.1 16 _ _ rfl; have := R446.1 19 _ _ rfl; exact ⟨by show (0 : Int) ≤ v469.toInt; omega, by show v469.toInt ≤ (400 : Int); omega⟩) (Or.inl (by decide)) d_TrustDeskModel_readRule_269 (vp_in_iff.mpr (by have := R446.1 15 _ _ rfl; have := R446.1 16 _ _ rfl; have := R446.1 19 _ _ rfl; omega)) (fun M471 I472 K473 R474 E475 A476 V477 => ?_)
                      have z478 := (V477 15)
                      have z479 := (V477 16)
                      have z480 := (V477 17)
                      have z481 := (V477 19)
                      have z482 := (V477 22).trans z451
                      have z483 := (V477 24).trans z452
                      have z484 := (A476 5 (by decide) rfl 44).trans z453
                      have z485 := (A476 6 (by decide) rfl 44).trans z454
                      have z486 := (A476 7 (by decide) rfl ((880 + ra M0 o0 6 44).toNat)).trans z455
                      have z487 := (A476 10 (by decide) rfl ((880 + ra M0 o0 6 44).toNat)).trans z456
                      have z488 := (A476 8 (by decide) rfl ((880 + ra M0 o0 6 44).toNat)).trans z457
                      have E489 : rE M0 M471 o0 0 3 := E458.same (fun k _ _ => V477 k) (fun k h1 h2 => A476 k (by omega) (by rcases (show k = 4 ∨ k = 5 by omega) with rfl | rfl <;> rfl))
                      have h490 : (880 + ra M0 o0 6 44).toNat = v42.toNatClampNeg := by have := mz_nat9 (i := v42) (by have := R446.1 15 _ _ rfl; have := R446.1 16 _ _ rfl; have := R446.1 19 _ _ rfl; omega); have := R446.1 15 _ _ rfl; have := R446.1 16 _ _ rfl; have := R446.1 19 _ _ rfl; omega
                      have z491 : ra M471 o0 12 ((880 + ra M0 o0 6 44).toNat) = v469.toInt := (E475 _).trans (if_pos h490)
                      have K492 : rK M0 M471 o0 ((880 + ra M0 o0 6 44).toNat) := K459.st A476 E475 (by have := mz_nat9 (i := v42) (by have := R446.1 15 _ _ rfl; have := R446.1 16 _ _ rfl; have := R446.1 19 _ _ rfl; omega); have := R446.1 15 _ _ rfl; have := R446.1 16 _ _ rfl; have := R446.1 19 _ _ rfl; omega)
                      have K493 : nN M471 o0 := K460.same (sA_a A476 (by decide)) (sF_a V477)
                      clear z451 z452 z453 z454 z455 z456 z457
                      exact mv_vret d_TrustDeskModel_readRule_270 rfl ⟨_, I472, rfl, R474, (rW.of E489.1 (E489.s yS (by decide)) (fun w9 => by have u91 : rv M440 o0 19 = 0 := (by omega); have := f449.o u91; have := f450.o u91; have u92 : rv M391 o0 19 = 0 := (by omega); have := f403.o u92; have := f404.o u92; have u93 : rv M36 o0 19 = 0 := (by omega); have := f51.o u93; have := f52.o u93; exact rG.step yG yR E489 w9 K492 (by have := yR.2 6 _ _ rfl 44; omega) (by have := R474.1 15 _ _ rfl; have := R474.1 16 _ _ rfl; have := R474.1 19 _ _ rfl; omega) (by have := R474.1 15 _ _ rfl; have := R474.1 16 _ _ rfl; have := R474.1 19 _ _ rfl; omega) (fun h9 => by exfalso; have := R474.1 15 _ _ rfl; have := R474.1 16 _ _ rfl; have := R474.1 19 _ _ rfl; omega) (fun h9 => (by have := R474.1 15 _ _ rfl; have := R474.1 16 _ _ rfl; have := R474.1 19 _ _ rfl; omega)) (by have := R474.1 15 _ _ rfl; have := R474.1 16 _ _ rfl; have := R474.1 19 _ _ rfl; omega) K493)), (rO.of E489 K492 (by have := yR.2 6 _ _ rfl 44; omega)), ⟨E489.2.1, fun w9 => by skip; have := E489.w2 w9; omega⟩, (fun w9 => by have u91 : rv M440 o0 19 = 0 := (by omega); have := f449.o u91; have := f450.o u91; have u92 : rv M391 o0 19 = 0 := (by omega); have := f403.o u92; have := f404.o u92; have u93 : rv M36 o0 19 = 0 := (by omega); have := f51.o u93; have := f52.o u93; omega)⟩
                  · refine mv_sipush (v := 360) d_TrustDeskModel_readRule_218 (by decide) ?_
                    refine mv_goto (tgt := 247) d_TrustDeskModel_readRule_221 (by decide) ?_
                    obtain ⟨_, b500, -⟩ := I40.1 _ _ t50
                    have : (1 : Int32).toInt = 1 := by decide
                    have : (360 : Int32).toInt = 360 := by decide
                    refine mv_callV (kc' := 0) (ks' := 0) (As := [.int 1, .int 360]) (st9 := [.int 360, .int 1, .ref o0, .int v42, .ref a176]) d_TrustDeskModel_readRule_247 lV_TrustDeskModel_317 b500 rfl (tc_TrustDeskModel_number_x (d := (d + 22)) (x9 := x9) (o0 := o0) (x1 := 1) (x2 := 360) t50 R43 E57.1 (E57.s yS (by decide)) I40.start) rfl (Nat.le_of_ble_eq_true rfl) (Nat.le_of_ble_eq_true rfl) (Nat.le_of_ble_eq_true rfl) (hst := rfl) (fun b494r M495 n496 b494 => ?_)
                    obtain ⟨T497, J498, v501, rfl, R502, f503, f504⟩ := b494
                    have I499 := I40.call J498 (tm_sub (by decide)) (Or.inl rfl)
                    have t505 := J498.up t50
                    have t506 := J498.up t_a176
                    have := f503.2.1
                    have f507 := Im.i f503.w.2
                    have f508 := Im.i f503.w2
                    have z509 := (rv_c I40 J498 (I40.up h_o0) (k := 22) rfl).trans z54
                    have z510 := (rv_c I40 J498 (I40.up h_o0) (k := 24) rfl).trans z55
                    have z511 := (ra_call I40 J498 (I40.up h_o0) (k := 5) rfl rfl rfl 44).trans z56
                    have z512 := (ra_call I40 J498 (I40.up h_o0) (k := 6) rfl rfl rfl 44)
                    have z513 := (ra_call I40 J498 (I40.up h_o0) (k := 7) rfl rfl rfl ((880 + ra M0 o0 6 44).toNat))
                    have z514 := (ra_call I40 J498 (I40.up h_o0) (k := 10) rfl rfl rfl ((880 + ra M0 o0 6 44).toNat))
                    have E515 : rE M0 M495 o0 0 2 := E57.trans f503 (by decide) (yR.2 5 _ _ rfl 44).1 (by decide) (by decide)
                    have K516 : rK M0 M495 o0 ((880 + ra M0 o0 6 44).toNat) := K59.same (sA_c I40 J498 (I40.up h_o0) (by decide))
                    have K517 : nN M495 o0 := K60.same (sA_c I40 J498 (I40.up h_o0) (by decide)) (sF_c I40 J498 (I40.up h_o0) (by decide))
                    clear z54 z55 z56
                    have q518 := J498.keep t50 (by decide) q61
                    have t519 := J498.up t62
                    have q520 := J498.keep t50 (by decide) q175
                    refine tr_iastR (k := 8) I499 R502 (I499.up h_o0) q520 t506 (by decide) (by decide) (fun lo hi h => by cases h; have := R502.1 15 _ _ rfl; have := R502.1 16 _ _ rfl; have := R502.1 19 _ _ rfl; exact ⟨by show ((-1) : Int) ≤ v501.toInt; omega, by show v501.toInt ≤ (720 : Int); omega⟩) (Or.inl (by decide)) d_TrustDeskModel_readRule_250 (vp_in_iff.mpr (by have := R502.1 15 _ _ rfl; have := R502.1 16 _ _ rfl; have := R502.1 19 _ _ rfl; omega)) (fun M521 I522 K523 R524 E525 A526 V527 => ?_)
                    have z528 := (V527 15)
                    have z529 := (V527 16)
                    have z530 := (V527 17)
                    have z531 := (V527 19)
                    have z532 := (V527 22).trans z509
                    have z533 := (V527 24).trans z510
                    have z534 := (A526 5 (by decide) rfl 44).trans z511
                    have z535 := (A526 6 (by decide) rfl 44).trans z512
                    have z536 := (A526 7 (by decide) rfl ((880 + ra M0 o0 6 44).toNat)).trans z513
                    have z537 := (A526 10 (by decide) rfl ((880 + ra M0 o0 6 44).toNat)).trans z514
                    have E538 : rE M0 M521 o0 0 2 := E515.same (fun k _ _ => V527 k) (fun k h1 h2 => A526 k (by omega) (by rcases (show k = 4 ∨ k = 5 by omega) with rfl | rfl <;> rfl))
                    have h539 : (880 + ra M0 o0 6 44).toNat = v42.toNatClampNeg := by have := mz_nat9 (i := v42) (by have := R502.1 15 _ _ rfl; have := R502.1 16 _ _ rfl; have := R502.1 19 _ _ rfl; omega); have := R502.1 15 _ _ rfl; have := R502.1 16 _ _ rfl; have := R502.1 19 _ _ rfl; omega
                    have z540 : ra M521 o0 8 ((880 + ra M0 o0 6 44).toNat) = v501.toInt := (E525 _).trans (if_pos h539)
                    have K541 : rK M0 M521 o0 ((880 + ra M0 o0 6 44).toNat) := K516.st A526 E525 (by have := mz_nat9 (i := v42) (by have := R502.1 15 _ _ rfl; have := R502.1 16 _ _ rfl; have := R502.1 19 _ _ rfl; omega); have := R502.1 15 _ _ rfl; have := R502.1 16 _ _ rfl; have := R502.1 19 _ _ rfl; omega)
                    have K542 : nN M521 o0 := K517.same (sA_a A526 (by decide)) (sF_a V527)
                    clear z509 z510 z511 z512 z513 z514
                    refine mv_aload_n d_TrustDeskModel_readRule_251 rfl rfl ?_
                    refine mv_bipush (v := 59) d_TrustDeskModel_readRule_252 (by decide) ?_
                    obtain ⟨_, b549, -⟩ := I522.1 _ _ t505
                    have : (59 : Int32).toInt = 59 := by decide
                    refine mv_callV (kc' := 0) (ks' := 0) (As := [.int 59]) (st9 := [.int 59, .ref o0]) d_TrustDeskModel_readRule_254 lV_TrustDeskModel_291 b549 rfl (tc_TrustDeskModel_wantSign_x (d := (d + 22)) (x9 := x9) (o0 := o0) (x1 := 59) t505 R524 E538.1 (E538.s yS (by decide)) I522.start) rfl (Nat.le_of_ble_eq_true rfl) (Nat.le_of_ble_eq_true rfl) (Nat.le_of_ble_eq_true rfl) (hst := rfl) (fun b543r M544 n545 b543 => ?_)
                    obtain ⟨T546, J547, rfl, R550, f551⟩ := b543
                    have I548 := I522.call J547 (tm_sub (by decide)) (Or.inl rfl)
                    have t552 := J547.up t505
                    have := f551.2.1
                    have f553 := Im.i f551.w.2
                    have f554 := Im.i f551.w2
                    have z555 := (rv_c I522 J547 (I522.up h_o0) (k := 22) rfl).trans z532
                    have z556 := (rv_c I522 J547 (I522.up h_o0) (k := 24) rfl).trans z533
                    have z557 := (ra_call I522 J547 (I522.up h_o0) (k := 5) rfl rfl rfl 44).trans z534
                    have z558 := (ra_call I522 J547 (I522.up h_o0) (k := 6) rfl rfl rfl 44).trans z535
                    have z559 := (ra_call I522 J547 (I522.up h_o0) (k := 7) rfl rfl rfl ((880 + ra M0 o0 6 44).toNat)).trans z536
                    have z560 := (ra_call I522 J547 (I522.up h_o0) (k := 10) rfl rfl rfl ((880 + ra M0 o0 6 44).toNat)).trans z537
                    have z561 := (ra_call I522 J547 (I522.up h_o0) (k := 8) rfl rfl rfl ((880 + ra M0 o0 6 44).toNat)).trans z540
                    have E562 : rE M0 M544 o0 0 3 := E538.trans f551 (by decide) (yR.2 5 _ _ rfl 44).1 (by decide) (by decide)
                    have K563 : rK M0 M544 o0 ((880 + ra M0 o0 6 44).toNat) := K541.same (sA_c I522 J547 (I522.up h_o0) (by decide))
                    have K564 : nN M544 o0 := K542.same (sA_c I522 J547 (I522.up h_o0) (by decide)) (sF_c I522 J547 (I522.up h_o0) (by decide))
                    clear z532 z533 z534 z535 z536 z537 z540
                    have q565 := J547.keep t505 (by decide) (K523 _ 13 6 _ q518)
                    have t566 := J547.up t519
                    have q567 := J547.keep t505 (by decide) (K523 _ 13 8 _ q520)
                    have t568 := J547.up t506
                    refine mv_aload_n d_TrustDeskModel_readRule_257 rfl rfl ?_
                    obtain ⟨a570, q569, t_a570⟩ := tm_atR I548 t552 (k := 12) rfl
                    refine tr_getK q569 d_TrustDeskModel_readRule_258 f_TrustDeskModel_41_13 ?_
                    refine mv_iload_n d_TrustDeskModel_readRule_261 rfl rfl ?_
                    refine mv_aload_n d_TrustDeskModel_readRule_262 rfl rfl ?_
                    obtain ⟨a572, q571, t_a572⟩ := tm_atR I548 t552 (k := 5) rfl
                    refine tr_getK q571 d_TrustDeskModel_readRule_263 f_TrustDeskModel_20_13 ?_
                    refine mv_bipush (v := 44) d_TrustDeskModel_readRule_266 (by decide) ?_
                    refine tr_ialdR (o := o0) (k := 5) I548 q571 t_a572 (by decide) d_TrustDeskModel_readRule_268 (by unfold vp_in; decide) (fun v573 e574 => ?_)
                    have := R550.a (k := 5) rfl (44 : Int32).toNatClampNeg
                    have : v573.toInt = ra M544 o0 5 44 := e574
                    have : v573.toInt = _ := Eq.trans e574 z557
                    refine tr_iastR (k := 12) I548 R550 (I548.up h_o0) q569 t_a570 (by decide) (by decide) (fun lo hi h => by cases h; have := R550.1 15 _ _ rfl; have := R550.1 16 _ _ rfl; have := R550.1 19 _ _ rfl; exact ⟨by show (0 : Int) ≤ v573.toInt; omega, by show v573.toInt ≤ (400 : Int); omega⟩) (Or.inl (by decide)) d_TrustDeskModel_readRule_269 (vp_in_iff.mpr (by have := R550.1 15 _ _ rfl; have := R550.1 16 _ _ rfl; have := R550.1 19 _ _ rfl; omega)) (fun M575 I576 K577 R578 E579 A580 V581 => ?_)
                    have z582 := (V581 15)
                    have z583 := (V581 16)
                    have z584 := (V581 17)
                    have z585 := (V581 19)
                    have z586 := (V581 22).trans z555
                    have z587 := (V581 24).trans z556
                    have z588 := (A580 5 (by decide) rfl 44).trans z557
                    have z589 := (A580 6 (by decide) rfl 44).trans z558
                    have z590 := (A580 7 (by decide) rfl ((880 + ra M0 o0 6 44).toNat)).trans z559
                    have z591 := (A580 10 (by decide) rfl ((880 + ra M0 o0 6 44).toNat)).trans z560
                    have z592 := (A580 8 (by decide) rfl ((880 + ra M0 o0 6 44).toNat)).trans z561
                    have E593 : rE M0 M575 o0 0 3 := E562.same (fun k _ _ => V581 k) (fun k h1 h2 => A580 k (by omega) (by rcases (show k = 4 ∨ k = 5 by omega) with rfl | rfl <;> rfl))
                    have h594 : (880 + ra M0 o0 6 44).toNat = v42.toNatClampNeg := by have := mz_nat9 (i := v42) (by have := R550.1 15 _ _ rfl; have := R550.1 16 _ _ rfl; have := R550.1 19 _ _ rfl; omega); have := R550.1 15 _ _ rfl; have := R550.1 16 _ _ rfl; have := R550.1 19 _ _ rfl; omega
                    have z595 : ra M575 o0 12 ((880 + ra M0 o0 6 44).toNat) = v573.toInt := (E579 _).trans (if_pos h594)
                    have K596 : rK M0 M575 o0 ((880 + ra M0 o0 6 44).toNat) := K563.st A580 E579 (by have := mz_nat9 (i := v42) (by have := R550.1 15 _ _ rfl; have := R550.1 16 _ _ rfl; have := R550.1 19 _ _ rfl; omega); have := R550.1 15 _ _ rfl; have := R550.1 16 _ _ rfl; have := R550.1 19 _ _ rfl; omega)
                    have K597 : nN M575 o0 := K564.same (sA_a A580 (by decide)) (sF_a V581)
                    clear z555 z556 z557 z558 z559 z560 z561
                    exact mv_vret d_TrustDeskModel_readRule_270 rfl ⟨_, I576, rfl, R578, (rW.of E593.1 (E593.s yS (by decide)) (fun w9 => by have u91 : rv M544 o0 19 = 0 := (by omega); have := f553.o u91; have := f554.o u91; have u92 : rv M495 o0 19 = 0 := (by omega); have := f507.o u92; have := f508.o u92; have u93 : rv M36 o0 19 = 0 := (by omega); have := f51.o u93; have := f52.o u93; exact rG.step yG yR E593 w9 K596 (by have := yR.2 6 _ _ rfl 44; omega) (by have := R578.1 15 _ _ rfl; have := R578.1 16 _ _ rfl; have := R578.1 19 _ _ rfl; omega) (by have := R578.1 15 _ _ rfl; have := R578.1 16 _ _ rfl; have := R578.1 19 _ _ rfl; omega) (fun h9 => by exfalso; have := R578.1 15 _ _ rfl; have := R578.1 16 _ _ rfl; have := R578.1 19 _ _ rfl; omega) (fun h9 => (by have := R578.1 15 _ _ rfl; have := R578.1 16 _ _ rfl; have := R578.1 19 _ _ rfl; omega)) (by have := R578.1 15 _ _ rfl; have := R578.1 16 _ _ rfl; have := R578.1 19 _ _ rfl; omega) K597)), (rO.of E593 K596 (by have := yR.2 6 _ _ rfl 44; omega)), ⟨E593.2.1, fun w9 => by skip; have := E593.w2 w9; omega⟩, (fun w9 => by have u91 : rv M544 o0 19 = 0 := (by omega); have := f553.o u91; have := f554.o u91; have u92 : rv M495 o0 19 = 0 := (by omega); have := f507.o u92; have := f508.o u92; have u93 : rv M36 o0 19 = 0 := (by omega); have := f51.o u93; have := f52.o u93; omega)⟩
                · refine mv_bipush (v := 8) d_TrustDeskModel_readRule_208 (by decide) ?_
                  refine mv_goto (tgt := 247) d_TrustDeskModel_readRule_210 (by decide) ?_
                  obtain ⟨_, b604, -⟩ := I40.1 _ _ t50
                  have : (1 : Int32).toInt = 1 := by decide
                  have : (8 : Int32).toInt = 8 := by decide
                  refine mv_callV (kc' := 0) (ks' := 0) (As := [.int 1, .int 8]) (st9 := [.int 8, .int 1, .ref o0, .int v42, .ref a176]) d_TrustDeskModel_readRule_247 lV_TrustDeskModel_317 b604 rfl (tc_TrustDeskModel_number_x (d := (d + 22)) (x9 := x9) (o0 := o0) (x1 := 1) (x2 := 8) t50 R43 E57.1 (E57.s yS (by decide)) I40.start) rfl (Nat.le_of_ble_eq_true rfl) (Nat.le_of_ble_eq_true rfl) (Nat.le_of_ble_eq_true rfl) (hst := rfl) (fun b598r M599 n600 b598 => ?_)
                  obtain ⟨T601, J602, v605, rfl, R606, f607, f608⟩ := b598
                  have I603 := I40.call J602 (tm_sub (by decide)) (Or.inl rfl)
                  have t609 := J602.up t50
                  have t610 := J602.up t_a176
                  have := f607.2.1
                  have f611 := Im.i f607.w.2
                  have f612 := Im.i f607.w2
                  have z613 := (rv_c I40 J602 (I40.up h_o0) (k := 22) rfl).trans z54
                  have z614 := (rv_c I40 J602 (I40.up h_o0) (k := 24) rfl).trans z55
                  have z615 := (ra_call I40 J602 (I40.up h_o0) (k := 5) rfl rfl rfl 44).trans z56
                  have z616 := (ra_call I40 J602 (I40.up h_o0) (k := 6) rfl rfl rfl 44)
                  have z617 := (ra_call I40 J602 (I40.up h_o0) (k := 7) rfl rfl rfl ((880 + ra M0 o0 6 44).toNat))
                  have z618 := (ra_call I40 J602 (I40.up h_o0) (k := 10) rfl rfl rfl ((880 + ra M0 o0 6 44).toNat))
                  have E619 : rE M0 M599 o0 0 2 := E57.trans f607 (by decide) (yR.2 5 _ _ rfl 44).1 (by decide) (by decide)
                  have K620 : rK M0 M599 o0 ((880 + ra M0 o0 6 44).toNat) := K59.same (sA_c I40 J602 (I40.up h_o0) (by decide))
                  have K621 : nN M599 o0 := K60.same (sA_c I40 J602 (I40.up h_o0) (by decide)) (sF_c I40 J602 (I40.up h_o0) (by decide))
                  clear z54 z55 z56
                  have q622 := J602.keep t50 (by decide) q61
                  have t623 := J602.up t62
                  have q624 := J602.keep t50 (by decide) q175
                  refine tr_iastR (k := 8) I603 R606 (I603.up h_o0) q624 t610 (by decide) (by decide) (fun lo hi h => by cases h; have := R606.1 15 _ _ rfl; have := R606.1 16 _ _ rfl; have := R606.1 19 _ _ rfl; exact ⟨by show ((-1) : Int) ≤ v605.toInt; omega, by show v605.toInt ≤ (720 : Int); omega⟩) (Or.inl (by decide)) d_TrustDeskModel_readRule_250 (vp_in_iff.mpr (by have := R606.1 15 _ _ rfl; have := R606.1 16 _ _ rfl; have := R606.1 19 _ _ rfl; omega)) (fun M625 I626 K627 R628 E629 A630 V631 => ?_)
                  have z632 := (V631 15)
                  have z633 := (V631 16)
                  have z634 := (V631 17)
                  have z635 := (V631 19)
                  have z636 := (V631 22).trans z613
                  have z637 := (V631 24).trans z614
                  have z638 := (A630 5 (by decide) rfl 44).trans z615
                  have z639 := (A630 6 (by decide) rfl 44).trans z616
                  have z640 := (A630 7 (by decide) rfl ((880 + ra M0 o0 6 44).toNat)).trans z617
                  have z641 := (A630 10 (by decide) rfl ((880 + ra M0 o0 6 44).toNat)).trans z618
                  have E642 : rE M0 M625 o0 0 2 := E619.same (fun k _ _ => V631 k) (fun k h1 h2 => A630 k (by omega) (by rcases (show k = 4 ∨ k = 5 by omega) with rfl | rfl <;> rfl))
                  have h643 : (880 + ra M0 o0 6 44).toNat = v42.toNatClampNeg := by have := mz_nat9 (i := v42) (by have := R606.1 15 _ _ rfl; have := R606.1 16 _ _ rfl; have := R606.1 19 _ _ rfl; omega); have := R606.1 15 _ _ rfl; have := R606.1 16 _ _ rfl; have := R606.1 19 _ _ rfl; omega
                  have z644 : ra M625 o0 8 ((880 + ra M0 o0 6 44).toNat) = v605.toInt := (E629 _).trans (if_pos h643)
                  have K645 : rK M0 M625 o0 ((880 + ra M0 o0 6 44).toNat) := K620.st A630 E629 (by have := mz_nat9 (i := v42) (by have := R606.1 15 _ _ rfl; have := R606.1 16 _ _ rfl; have := R606.1 19 _ _ rfl; omega); have := R606.1 15 _ _ rfl; have := R606.1 16 _ _ rfl; have := R606.1 19 _ _ rfl; omega)
                  have K646 : nN M625 o0 := K621.same (sA_a A630 (by decide)) (sF_a V631)
                  clear z613 z614 z615 z616 z617 z618
                  refine mv_aload_n d_TrustDeskModel_readRule_251 rfl rfl ?_
                  refine mv_bipush (v := 59) d_TrustDeskModel_readRule_252 (by decide) ?_
                  obtain ⟨_, b653, -⟩ := I626.1 _ _ t609
                  have : (59 : Int32).toInt = 59 := by decide
                  refine mv_callV (kc' := 0) (ks' := 0) (As := [.int 59]) (st9 := [.int 59, .ref o0]) d_TrustDeskModel_readRule_254 lV_TrustDeskModel_291 b653 rfl (tc_TrustDeskModel_wantSign_x (d := (d + 22)) (x9 := x9) (o0 := o0) (x1 := 59) t609 R628 E642.1 (E642.s yS (by decide)) I626.start) rfl (Nat.le_of_ble_eq_true rfl) (Nat.le_of_ble_eq_true rfl) (Nat.le_of_ble_eq_true rfl) (hst := rfl) (fun b647r M648 n649 b647 => ?_)
                  obtain ⟨T650, J651, rfl, R654, f655⟩ := b647
                  have I652 := I626.call J651 (tm_sub (by decide)) (Or.inl rfl)
                  have t656 := J651.up t609
                  have := f655.2.1
                  have f657 := Im.i f655.w.2
                  have f658 := Im.i f655.w2
                  have z659 := (rv_c I626 J651 (I626.up h_o0) (k := 22) rfl).trans z636
                  have z660 := (rv_c I626 J651 (I626.up h_o0) (k := 24) rfl).trans z637
                  have z661 := (ra_call I626 J651 (I626.up h_o0) (k := 5) rfl rfl rfl 44).trans z638
                  have z662 := (ra_call I626 J651 (I626.up h_o0) (k := 6) rfl rfl rfl 44).trans z639
                  have z663 := (ra_call I626 J651 (I626.up h_o0) (k := 7) rfl rfl rfl ((880 + ra M0 o0 6 44).toNat)).trans z640
                  have z664 := (ra_call I626 J651 (I626.up h_o0) (k := 10) rfl rfl rfl ((880 + ra M0 o0 6 44).toNat)).trans z641
                  have z665 := (ra_call I626 J651 (I626.up h_o0) (k := 8) rfl rfl rfl ((880 + ra M0 o0 6 44).toNat)).trans z644
                  have E666 : rE M0 M648 o0 0 3 := E642.trans f655 (by decide) (yR.2 5 _ _ rfl 44).1 (by decide) (by decide)
                  have K667 : rK M0 M648 o0 ((880 + ra M0 o0 6 44).toNat) := K645.same (sA_c I626 J651 (I626.up h_o0) (by decide))
                  have K668 : nN M648 o0 := K646.same (sA_c I626 J651 (I626.up h_o0) (by decide)) (sF_c I626 J651 (I626.up h_o0) (by decide))
                  clear z636 z637 z638 z639 z640 z641 z644
                  have q669 := J651.keep t609 (by decide) (K627 _ 13 6 _ q622)
                  have t670 := J651.up t623
                  have q671 := J651.keep t609 (by decide) (K627 _ 13 8 _ q624)
                  have t672 := J651.up t610
                  refine mv_aload_n d_TrustDeskModel_readRule_257 rfl rfl ?_
                  obtain ⟨a674, q673, t_a674⟩ := tm_atR I652 t656 (k := 12) rfl
                  refine tr_getK q673 d_TrustDeskModel_readRule_258 f_TrustDeskModel_41_13 ?_
                  refine mv_iload_n d_TrustDeskModel_readRule_261 rfl rfl ?_
                  refine mv_aload_n d_TrustDeskModel_readRule_262 rfl rfl ?_
                  obtain ⟨a676, q675, t_a676⟩ := tm_atR I652 t656 (k := 5) rfl
                  refine tr_getK q675 d_TrustDeskModel_readRule_263 f_TrustDeskModel_20_13 ?_
                  refine mv_bipush (v := 44) d_TrustDeskModel_readRule_266 (by decide) ?_
                  refine tr_ialdR (o := o0) (k := 5) I652 q675 t_a676 (by decide) d_TrustDeskModel_readRule_268 (by unfold vp_in; decide) (fun v677 e678 => ?_)
                  have := R654.a (k := 5) rfl (44 : Int32).toNatClampNeg
                  have : v677.toInt = ra M648 o0 5 44 := e678
                  have : v677.toInt = _ := Eq.trans e678 z661
                  refine tr_iastR (k := 12) I652 R654 (I652.up h_o0) q673 t_a674 (by decide) (by decide) (fun lo hi h => by cases h; have := R654.1 15 _ _ rfl; have := R654.1 16 _ _ rfl; have := R654.1 19 _ _ rfl; exact ⟨by show (0 : Int) ≤ v677.toInt; omega, by show v677.toInt ≤ (400 : Int); omega⟩) (Or.inl (by decide)) d_TrustDeskModel_readRule_269 (vp_in_iff.mpr (by have := R654.1 15 _ _ rfl; have := R654.1 16 _ _ rfl; have := R654.1 19 _ _ rfl; omega)) (fun M679 I680 K681 R682 E683 A684 V685 => ?_)
                  have z686 := (V685 15)
                  have z687 := (V685 16)
                  have z688 := (V685 17)
                  have z689 := (V685 19)
                  have z690 := (V685 22).trans z659
                  have z691 := (V685 24).trans z660
                  have z692 := (A684 5 (by decide) rfl 44).trans z661
                  have z693 := (A684 6 (by decide) rfl 44).trans z662
                  have z694 := (A684 7 (by decide) rfl ((880 + ra M0 o0 6 44).toNat)).trans z663
                  have z695 := (A684 10 (by decide) rfl ((880 + ra M0 o0 6 44).toNat)).trans z664
                  have z696 := (A684 8 (by decide) rfl ((880 + ra M0 o0 6 44).toNat)).trans z665
                  have E697 : rE M0 M679 o0 0 3 := E666.same (fun k _ _ => V685 k) (fun k h1 h2 => A684 k (by omega) (by rcases (show k = 4 ∨ k = 5 by omega) with rfl | rfl <;> rfl))
                  have h698 : (880 + ra M0 o0 6 44).toNat = v42.toNatClampNeg := by have := mz_nat9 (i := v42) (by have := R654.1 15 _ _ rfl; have := R654.1 16 _ _ rfl; have := R654.1 19 _ _ rfl; omega); have := R654.1 15 _ _ rfl; have := R654.1 16 _ _ rfl; have := R654.1 19 _ _ rfl; omega
                  have z699 : ra M679 o0 12 ((880 + ra M0 o0 6 44).toNat) = v677.toInt := (E683 _).trans (if_pos h698)
                  have K700 : rK M0 M679 o0 ((880 + ra M0 o0 6 44).toNat) := K667.st A684 E683 (by have := mz_nat9 (i := v42) (by have := R654.1 15 _ _ rfl; have := R654.1 16 _ _ rfl; have := R654.1 19 _ _ rfl; omega); have := R654.1 15 _ _ rfl; have := R654.1 16 _ _ rfl; have := R654.1 19 _ _ rfl; omega)
                  have K701 : nN M679 o0 := K668.same (sA_a A684 (by decide)) (sF_a V685)
                  clear z659 z660 z661 z662 z663 z664 z665
                  exact mv_vret d_TrustDeskModel_readRule_270 rfl ⟨_, I680, rfl, R682, (rW.of E697.1 (E697.s yS (by decide)) (fun w9 => by have u91 : rv M648 o0 19 = 0 := (by omega); have := f657.o u91; have := f658.o u91; have u92 : rv M599 o0 19 = 0 := (by omega); have := f611.o u92; have := f612.o u92; have u93 : rv M36 o0 19 = 0 := (by omega); have := f51.o u93; have := f52.o u93; exact rG.step yG yR E697 w9 K700 (by have := yR.2 6 _ _ rfl 44; omega) (by have := R682.1 15 _ _ rfl; have := R682.1 16 _ _ rfl; have := R682.1 19 _ _ rfl; omega) (by have := R682.1 15 _ _ rfl; have := R682.1 16 _ _ rfl; have := R682.1 19 _ _ rfl; omega) (fun h9 => by exfalso; have := R682.1 15 _ _ rfl; have := R682.1 16 _ _ rfl; have := R682.1 19 _ _ rfl; omega) (fun h9 => (by have := R682.1 15 _ _ rfl; have := R682.1 16 _ _ rfl; have := R682.1 19 _ _ rfl; omega)) (by have := R682.1 15 _ _ rfl; have := R682.1 16 _ _ rfl; have := R682.1 19 _ _ rfl; omega) K701)), (rO.of E697 K700 (by have := yR.2 6 _ _ rfl 44; omega)), ⟨E697.2.1, fun w9 => by skip; have := E697.w2 w9; omega⟩, (fun w9 => by have u91 : rv M648 o0 19 = 0 := (by omega); have := f657.o u91; have := f658.o u91; have u92 : rv M599 o0 19 = 0 := (by omega); have := f611.o u92; have := f612.o u92; have u93 : rv M36 o0 19 = 0 := (by omega); have := f51.o u93; have := f52.o u93; omega)⟩
              · refine mv_bipush (v := 50) d_TrustDeskModel_readRule_198 (by decide) ?_
                refine mv_goto (tgt := 247) d_TrustDeskModel_readRule_200 (by decide) ?_
                obtain ⟨_, b708, -⟩ := I40.1 _ _ t50
                have : (1 : Int32).toInt = 1 := by decide
                have : (50 : Int32).toInt = 50 := by decide
                refine mv_callV (kc' := 0) (ks' := 0) (As := [.int 1, .int 50]) (st9 := [.int 50, .int 1, .ref o0, .int v42, .ref a176]) d_TrustDeskModel_readRule_247 lV_TrustDeskModel_317 b708 rfl (tc_TrustDeskModel_number_x (d := (d + 22)) (x9 := x9) (o0 := o0) (x1 := 1) (x2 := 50) t50 R43 E57.1 (E57.s yS (by decide)) I40.start) rfl (Nat.le_of_ble_eq_true rfl) (Nat.le_of_ble_eq_true rfl) (Nat.le_of_ble_eq_true rfl) (hst := rfl) (fun b702r M703 n704 b702 => ?_)
                obtain ⟨T705, J706, v709, rfl, R710, f711, f712⟩ := b702
                have I707 := I40.call J706 (tm_sub (by decide)) (Or.inl rfl)
                have t713 := J706.up t50
                have t714 := J706.up t_a176
                have := f711.2.1
                have f715 := Im.i f711.w.2
                have f716 := Im.i f711.w2
                have z717 := (rv_c I40 J706 (I40.up h_o0) (k := 22) rfl).trans z54
                have z718 := (rv_c I40 J706 (I40.up h_o0) (k := 24) rfl).trans z55
                have z719 := (ra_call I40 J706 (I40.up h_o0) (k := 5) rfl rfl rfl 44).trans z56
                have z720 := (ra_call I40 J706 (I40.up h_o0) (k := 6) rfl rfl rfl 44)
                have z721 := (ra_call I40 J706 (I40.up h_o0) (k := 7) rfl rfl rfl ((880 + ra M0 o0 6 44).toNat))
                have z722 := (ra_call I40 J706 (I40.up h_o0) (k := 10) rfl rfl rfl ((880 + ra M0 o0 6 44).toNat))
                have E723 : rE M0 M703 o0 0 2 := E57.trans f711 (by decide) (yR.2 5 _ _ rfl 44).1 (by decide) (by decide)
                have K724 : rK M0 M703 o0 ((880 + ra M0 o0 6 44).toNat) := K59.same (sA_c I40 J706 (I40.up h_o0) (by decide))
                have K725 : nN M703 o0 := K60.same (sA_c I40 J706 (I40.up h_o0) (by decide)) (sF_c I40 J706 (I40.up h_o0) (by decide))
                clear z54 z55 z56
                have q726 := J706.keep t50 (by decide) q61
                have t727 := J706.up t62
                have q728 := J706.keep t50 (by decide) q175
                refine tr_iastR (k := 8) I707 R710 (I707.up h_o0) q728 t714 (by decide) (by decide) (fun lo hi h => by cases h; have := R710.1 15 _ _ rfl; have := R710.1 16 _ _ rfl; have := R710.1 19 _ _ rfl; exact ⟨by show ((-1) : Int) ≤ v709.toInt; omega, by show v709.toInt ≤ (720 : Int); omega⟩) (Or.inl (by decide)) d_TrustDeskModel_readRule_250 (vp_in_iff.mpr (by have := R710.1 15 _ _ rfl; have := R710.1 16 _ _ rfl; have := R710.1 19 _ _ rfl; omega)) (fun M729 I730 K731 R732 E733 A734 V735 => ?_)
                have z736 := (V735 15)
                have z737 := (V735 16)
                have z738 := (V735 17)
                have z739 := (V735 19)
                have z740 := (V735 22).trans z717
                have z741 := (V735 24).trans z718
                have z742 := (A734 5 (by decide) rfl 44).trans z719
                have z743 := (A734 6 (by decide) rfl 44).trans z720
                have z744 := (A734 7 (by decide) rfl ((880 + ra M0 o0 6 44).toNat)).trans z721
                have z745 := (A734 10 (by decide) rfl ((880 + ra M0 o0 6 44).toNat)).trans z722
                have E746 : rE M0 M729 o0 0 2 := E723.same (fun k _ _ => V735 k) (fun k h1 h2 => A734 k (by omega) (by rcases (show k = 4 ∨ k = 5 by omega) with rfl | rfl <;> rfl))
                have h747 : (880 + ra M0 o0 6 44).toNat = v42.toNatClampNeg := by have := mz_nat9 (i := v42) (by have := R710.1 15 _ _ rfl; have := R710.1 16 _ _ rfl; have := R710.1 19 _ _ rfl; omega); have := R710.1 15 _ _ rfl; have := R710.1 16 _ _ rfl; have := R710.1 19 _ _ rfl; omega
                have z748 : ra M729 o0 8 ((880 + ra M0 o0 6 44).toNat) = v709.toInt := (E733 _).trans (if_pos h747)
                have K749 : rK M0 M729 o0 ((880 + ra M0 o0 6 44).toNat) := K724.st A734 E733 (by have := mz_nat9 (i := v42) (by have := R710.1 15 _ _ rfl; have := R710.1 16 _ _ rfl; have := R710.1 19 _ _ rfl; omega); have := R710.1 15 _ _ rfl; have := R710.1 16 _ _ rfl; have := R710.1 19 _ _ rfl; omega)
                have K750 : nN M729 o0 := K725.same (sA_a A734 (by decide)) (sF_a V735)
                clear z717 z718 z719 z720 z721 z722
                refine mv_aload_n d_TrustDeskModel_readRule_251 rfl rfl ?_
                refine mv_bipush (v := 59) d_TrustDeskModel_readRule_252 (by decide) ?_
                obtain ⟨_, b757, -⟩ := I730.1 _ _ t713
                have : (59 : Int32).toInt = 59 := by decide
                refine mv_callV (kc' := 0) (ks' := 0) (As := [.int 59]) (st9 := [.int 59, .ref o0]) d_TrustDeskModel_readRule_254 lV_TrustDeskModel_291 b757 rfl (tc_TrustDeskModel_wantSign_x (d := (d + 22)) (x9 := x9) (o0 := o0) (x1 := 59) t713 R732 E746.1 (E746.s yS (by decide)) I730.start) rfl (Nat.le_of_ble_eq_true rfl) (Nat.le_of_ble_eq_true rfl) (Nat.le_of_ble_eq_true rfl) (hst := rfl) (fun b751r M752 n753 b751 => ?_)
                obtain ⟨T754, J755, rfl, R758, f759⟩ := b751
                have I756 := I730.call J755 (tm_sub (by decide)) (Or.inl rfl)
                have t760 := J755.up t713
                have := f759.2.1
                have f761 := Im.i f759.w.2
                have f762 := Im.i f759.w2
                have z763 := (rv_c I730 J755 (I730.up h_o0) (k := 22) rfl).trans z740
                have z764 := (rv_c I730 J755 (I730.up h_o0) (k := 24) rfl).trans z741
                have z765 := (ra_call I730 J755 (I730.up h_o0) (k := 5) rfl rfl rfl 44).trans z742
                have z766 := (ra_call I730 J755 (I730.up h_o0) (k := 6) rfl rfl rfl 44).trans z743
                have z767 := (ra_call I730 J755 (I730.up h_o0) (k := 7) rfl rfl rfl ((880 + ra M0 o0 6 44).toNat)).trans z744
                have z768 := (ra_call I730 J755 (I730.up h_o0) (k := 10) rfl rfl rfl ((880 + ra M0 o0 6 44).toNat)).trans z745
                have z769 := (ra_call I730 J755 (I730.up h_o0) (k := 8) rfl rfl rfl ((880 + ra M0 o0 6 44).toNat)).trans z748
                have E770 : rE M0 M752 o0 0 3 := E746.trans f759 (by decide) (yR.2 5 _ _ rfl 44).1 (by decide) (by decide)
                have K771 : rK M0 M752 o0 ((880 + ra M0 o0 6 44).toNat) := K749.same (sA_c I730 J755 (I730.up h_o0) (by decide))
                have K772 : nN M752 o0 := K750.same (sA_c I730 J755 (I730.up h_o0) (by decide)) (sF_c I730 J755 (I730.up h_o0) (by decide))
                clear z740 z741 z742 z743 z744 z745 z748
                have q773 := J755.keep t713 (by decide) (K731 _ 13 6 _ q726)
                have t774 := J755.up t727
                have q775 := J755.keep t713 (by decide) (K731 _ 13 8 _ q728)
                have t776 := J755.up t714
                refine mv_aload_n d_TrustDeskModel_readRule_257 rfl rfl ?_
                obtain ⟨a778, q777, t_a778⟩ := tm_atR I756 t760 (k := 12) rfl
                refine tr_getK q777 d_TrustDeskModel_readRule_258 f_TrustDeskModel_41_13 ?_
                refine mv_iload_n d_TrustDeskModel_readRule_261 rfl rfl ?_
                refine mv_aload_n d_TrustDeskModel_readRule_262 rfl rfl ?_
                obtain ⟨a780, q779, t_a780⟩ := tm_atR I756 t760 (k := 5) rfl
                refine tr_getK q779 d_TrustDeskModel_readRule_263 f_TrustDeskModel_20_13 ?_
                refine mv_bipush (v := 44) d_TrustDeskModel_readRule_266 (by decide) ?_
                refine tr_ialdR (o := o0) (k := 5) I756 q779 t_a780 (by decide) d_TrustDeskModel_readRule_268 (by unfold vp_in; decide) (fun v781 e782 => ?_)
                have := R758.a (k := 5) rfl (44 : Int32).toNatClampNeg
                have : v781.toInt = ra M752 o0 5 44 := e782
                have : v781.toInt = _ := Eq.trans e782 z765
                refine tr_iastR (k := 12) I756 R758 (I756.up h_o0) q777 t_a778 (by decide) (by decide) (fun lo hi h => by cases h; have := R758.1 15 _ _ rfl; have := R758.1 16 _ _ rfl; have := R758.1 19 _ _ rfl; exact ⟨by show (0 : Int) ≤ v781.toInt; omega, by show v781.toInt ≤ (400 : Int); omega⟩) (Or.inl (by decide)) d_TrustDeskModel_readRule_269 (vp_in_iff.mpr (by have := R758.1 15 _ _ rfl; have := R758.1 16 _ _ rfl; have := R758.1 19 _ _ rfl; omega)) (fun M783 I784 K785 R786 E787 A788 V789 => ?_)
                have z790 := (V789 15)
                have z791 := (V789 16)
                have z792 := (V789 17)
                have z793 := (V789 19)
                have z794 := (V789 22).trans z763
                have z795 := (V789 24).trans z764
                have z796 := (A788 5 (by decide) rfl 44).trans z765
                have z797 := (A788 6 (by decide) rfl 44).trans z766
                have z798 := (A788 7 (by decide) rfl ((880 + ra M0 o0 6 44).toNat)).trans z767
                have z799 := (A788 10 (by decide) rfl ((880 + ra M0 o0 6 44).toNat)).trans z768
                have z800 := (A788 8 (by decide) rfl ((880 + ra M0 o0 6 44).toNat)).trans z769
                have E801 : rE M0 M783 o0 0 3 := E770.same (fun k _ _ => V789 k) (fun k h1 h2 => A788 k (by omega) (by rcases (show k = 4 ∨ k = 5 by omega) with rfl | rfl <;> rfl))
                have h802 : (880 + ra M0 o0 6 44).toNat = v42.toNatClampNeg := by have := mz_nat9 (i := v42) (by have := R758.1 15 _ _ rfl; have := R758.1 16 _ _ rfl; have := R758.1 19 _ _ rfl; omega); have := R758.1 15 _ _ rfl; have := R758.1 16 _ _ rfl; have := R758.1 19 _ _ rfl; omega
                have z803 : ra M783 o0 12 ((880 + ra M0 o0 6 44).toNat) = v781.toInt := (E787 _).trans (if_pos h802)
                have K804 : rK M0 M783 o0 ((880 + ra M0 o0 6 44).toNat) := K771.st A788 E787 (by have := mz_nat9 (i := v42) (by have := R758.1 15 _ _ rfl; have := R758.1 16 _ _ rfl; have := R758.1 19 _ _ rfl; omega); have := R758.1 15 _ _ rfl; have := R758.1 16 _ _ rfl; have := R758.1 19 _ _ rfl; omega)
                have K805 : nN M783 o0 := K772.same (sA_a A788 (by decide)) (sF_a V789)
                clear z763 z764 z765 z766 z767 z768 z769
                exact mv_vret d_TrustDeskModel_readRule_270 rfl ⟨_, I784, rfl, R786, (rW.of E801.1 (E801.s yS (by decide)) (fun w9 => by have u91 : rv M752 o0 19 = 0 := (by omega); have := f761.o u91; have := f762.o u91; have u92 : rv M703 o0 19 = 0 := (by omega); have := f715.o u92; have := f716.o u92; have u93 : rv M36 o0 19 = 0 := (by omega); have := f51.o u93; have := f52.o u93; exact rG.step yG yR E801 w9 K804 (by have := yR.2 6 _ _ rfl 44; omega) (by have := R786.1 15 _ _ rfl; have := R786.1 16 _ _ rfl; have := R786.1 19 _ _ rfl; omega) (by have := R786.1 15 _ _ rfl; have := R786.1 16 _ _ rfl; have := R786.1 19 _ _ rfl; omega) (fun h9 => by exfalso; have := R786.1 15 _ _ rfl; have := R786.1 16 _ _ rfl; have := R786.1 19 _ _ rfl; omega) (fun h9 => (by have := R786.1 15 _ _ rfl; have := R786.1 16 _ _ rfl; have := R786.1 19 _ _ rfl; omega)) (by have := R786.1 15 _ _ rfl; have := R786.1 16 _ _ rfl; have := R786.1 19 _ _ rfl; omega) K805)), (rO.of E801 K804 (by have := yR.2 6 _ _ rfl 44; omega)), ⟨E801.2.1, fun w9 => by skip; have := E801.w2 w9; omega⟩, (fun w9 => by have u91 : rv M752 o0 19 = 0 := (by omega); have := f761.o u91; have := f762.o u91; have u92 : rv M703 o0 19 = 0 := (by omega); have := f715.o u92; have := f716.o u92; have u93 : rv M36 o0 19 = 0 := (by omega); have := f51.o u93; have := f52.o u93; omega)⟩
            · refine mv_iconst (v := 0) d_TrustDeskModel_readRule_181 (by decide) ?_
              refine mv_goto (tgt := 186) d_TrustDeskModel_readRule_182 (by decide) ?_
              refine mv_istore_n (lv' := [(3, .int 0), (2, .int v42), (1, .int v10), (0, .ref o0)]) d_TrustDeskModel_readRule_186 rfl (by decide) rfl ?_
              refine mv_aload_n d_TrustDeskModel_readRule_187 rfl rfl ?_
              obtain ⟨a807, q806, t_a807⟩ := tm_atR I40 t50 (k := 8) rfl
              refine tr_getK q806 d_TrustDeskModel_readRule_188 f_TrustDeskModel_29_13 ?_
              refine mv_iload_n d_TrustDeskModel_readRule_191 rfl rfl ?_
              refine mv_aload_n d_TrustDeskModel_readRule_192 rfl rfl ?_
              refine mv_iload_n d_TrustDeskModel_readRule_193 rfl rfl ?_
              refine mv_iload_n d_TrustDeskModel_readRule_194 rfl rfl ?_
              have := mz_hi v10
              refine mv_if_neZ (tgt := 203) (a := v10.toInt) d_TrustDeskModel_readRule_195 (by decide) rfl (fun b808 => ?_) (fun b808 => absurd b808 (by omega))
              refine mv_iload_n d_TrustDeskModel_readRule_203 rfl rfl ?_
              refine mv_iconst (v := 1) d_TrustDeskModel_readRule_204 (by decide) ?_
              have := mz_hi v10
              refine mv_icmp_neZ (tgt := 213) (a := v10.toInt) (b := 1) d_TrustDeskModel_readRule_205 (by decide) rfl (by decide) (fun b809 => ?_) (fun b809 => absurd b809 (by omega))
              refine mv_iload_n d_TrustDeskModel_readRule_213 rfl rfl ?_
              refine mv_iconst (v := 2) d_TrustDeskModel_readRule_214 (by decide) ?_
              have := mz_hi v10
              refine mv_icmp_neZ (tgt := 224) (a := v10.toInt) (b := 2) d_TrustDeskModel_readRule_215 (by decide) rfl (by decide) (fun b810 => ?_) (fun b810 => absurd b810 (by omega))
              refine mv_iload_n d_TrustDeskModel_readRule_224 rfl rfl ?_
              refine mv_iconst (v := 3) d_TrustDeskModel_readRule_225 (by decide) ?_
              have := mz_hi v10
              refine mv_icmp_neZ (tgt := 235) (a := v10.toInt) (b := 3) d_TrustDeskModel_readRule_226 (by decide) rfl (by decide) (fun b811 => ?_) (fun b811 => absurd b811 (by omega))
              refine mv_iload_n d_TrustDeskModel_readRule_235 rfl rfl ?_
              refine mv_iconst (v := 4) d_TrustDeskModel_readRule_236 (by decide) ?_
              have := mz_hi v10
              refine mv_icmp_neZ (tgt := 245) (a := v10.toInt) (b := 4) d_TrustDeskModel_readRule_237 (by decide) rfl (by decide) (fun b812 => absurd b812 (by omega)) (fun b812 => ?_)
              refine mv_bipush (v := 20) d_TrustDeskModel_readRule_240 (by decide) ?_
              refine mv_goto (tgt := 247) d_TrustDeskModel_readRule_242 (by decide) ?_
              obtain ⟨_, b819, -⟩ := I40.1 _ _ t50
              have : (0 : Int32).toInt = 0 := by decide
              have : (20 : Int32).toInt = 20 := by decide
              refine mv_callV (kc' := 0) (ks' := 0) (As := [.int 0, .int 20]) (st9 := [.int 20, .int 0, .ref o0, .int v42, .ref a807]) d_TrustDeskModel_readRule_247 lV_TrustDeskModel_317 b819 rfl (tc_TrustDeskModel_number_x (d := (d + 22)) (x9 := x9) (o0 := o0) (x1 := 0) (x2 := 20) t50 R43 E57.1 (E57.s yS (by decide)) I40.start) rfl (Nat.le_of_ble_eq_true rfl) (Nat.le_of_ble_eq_true rfl) (Nat.le_of_ble_eq_true rfl) (hst := rfl) (fun b813r M814 n815 b813 => ?_)
              obtain ⟨T816, J817, v820, rfl, R821, f822, f823⟩ := b813
              have I818 := I40.call J817 (tm_sub (by decide)) (Or.inl rfl)
              have t824 := J817.up t50
              have t825 := J817.up t_a807
              have := f822.2.1
              have f826 := Im.i f822.w.2
              have f827 := Im.i f822.w2
              have z828 := (rv_c I40 J817 (I40.up h_o0) (k := 22) rfl).trans z54
              have z829 := (rv_c I40 J817 (I40.up h_o0) (k := 24) rfl).trans z55
              have z830 := (ra_call I40 J817 (I40.up h_o0) (k := 5) rfl rfl rfl 44).trans z56
              have z831 := (ra_call I40 J817 (I40.up h_o0) (k := 6) rfl rfl rfl 44)
              have z832 := (ra_call I40 J817 (I40.up h_o0) (k := 7) rfl rfl rfl ((880 + ra M0 o0 6 44).toNat))
              have z833 := (ra_call I40 J817 (I40.up h_o0) (k := 10) rfl rfl rfl ((880 + ra M0 o0 6 44).toNat))
              have E834 : rE M0 M814 o0 0 2 := E57.trans f822 (by decide) (yR.2 5 _ _ rfl 44).1 (by decide) (by decide)
              have K835 : rK M0 M814 o0 ((880 + ra M0 o0 6 44).toNat) := K59.same (sA_c I40 J817 (I40.up h_o0) (by decide))
              have K836 : nN M814 o0 := K60.same (sA_c I40 J817 (I40.up h_o0) (by decide)) (sF_c I40 J817 (I40.up h_o0) (by decide))
              clear z54 z55 z56
              have q837 := J817.keep t50 (by decide) q61
              have t838 := J817.up t62
              have q839 := J817.keep t50 (by decide) q806
              refine tr_iastR (k := 8) I818 R821 (I818.up h_o0) q839 t825 (by decide) (by decide) (fun lo hi h => by cases h; have := R821.1 15 _ _ rfl; have := R821.1 16 _ _ rfl; have := R821.1 19 _ _ rfl; exact ⟨by show ((-1) : Int) ≤ v820.toInt; omega, by show v820.toInt ≤ (720 : Int); omega⟩) (Or.inl (by decide)) d_TrustDeskModel_readRule_250 (vp_in_iff.mpr (by have := R821.1 15 _ _ rfl; have := R821.1 16 _ _ rfl; have := R821.1 19 _ _ rfl; omega)) (fun M840 I841 K842 R843 E844 A845 V846 => ?_)
              have z847 := (V846 15)
              have z848 := (V846 16)
              have z849 := (V846 17)
              have z850 := (V846 19)
              have z851 := (V846 22).trans z828
              have z852 := (V846 24).trans z829
              have z853 := (A845 5 (by decide) rfl 44).trans z830
              have z854 := (A845 6 (by decide) rfl 44).trans z831
              have z855 := (A845 7 (by decide) rfl ((880 + ra M0 o0 6 44).toNat)).trans z832
              have z856 := (A845 10 (by decide) rfl ((880 + ra M0 o0 6 44).toNat)).trans z833
              have E857 : rE M0 M840 o0 0 2 := E834.same (fun k _ _ => V846 k) (fun k h1 h2 => A845 k (by omega) (by rcases (show k = 4 ∨ k = 5 by omega) with rfl | rfl <;> rfl))
              have h858 : (880 + ra M0 o0 6 44).toNat = v42.toNatClampNeg := by have := mz_nat9 (i := v42) (by have := R821.1 15 _ _ rfl; have := R821.1 16 _ _ rfl; have := R821.1 19 _ _ rfl; omega); have := R821.1 15 _ _ rfl; have := R821.1 16 _ _ rfl; have := R821.1 19 _ _ rfl; omega
              have z859 : ra M840 o0 8 ((880 + ra M0 o0 6 44).toNat) = v820.toInt := (E844 _).trans (if_pos h858)
              have K860 : rK M0 M840 o0 ((880 + ra M0 o0 6 44).toNat) := K835.st A845 E844 (by have := mz_nat9 (i := v42) (by have := R821.1 15 _ _ rfl; have := R821.1 16 _ _ rfl; have := R821.1 19 _ _ rfl; omega); have := R821.1 15 _ _ rfl; have := R821.1 16 _ _ rfl; have := R821.1 19 _ _ rfl; omega)
              have K861 : nN M840 o0 := K836.same (sA_a A845 (by decide)) (sF_a V846)
              clear z828 z829 z830 z831 z832 z833
              refine mv_aload_n d_TrustDeskModel_readRule_251 rfl rfl ?_
              refine mv_bipush (v := 59) d_TrustDeskModel_readRule_252 (by decide) ?_
              obtain ⟨_, b868, -⟩ := I841.1 _ _ t824
              have : (59 : Int32).toInt = 59 := by decide
              refine mv_callV (kc' := 0) (ks' := 0) (As := [.int 59]) (st9 := [.int 59, .ref o0]) d_TrustDeskModel_readRule_254 lV_TrustDeskModel_291 b868 rfl (tc_TrustDeskModel_wantSign_x (d := (d + 22)) (x9 := x9) (o0 := o0) (x1 := 59) t824 R843 E857.1 (E857.s yS (by decide)) I841.start) rfl (Nat.le_of_ble_eq_true rfl) (Nat.le_of_ble_eq_true rfl) (Nat.le_of_ble_eq_true rfl) (hst := rfl) (fun b862r M863 n864 b862 => ?_)
              obtain ⟨T865, J866, rfl, R869, f870⟩ := b862
              have I867 := I841.call J866 (tm_sub (by decide)) (Or.inl rfl)
              have t871 := J866.up t824
              have := f870.2.1
              have f872 := Im.i f870.w.2
              have f873 := Im.i f870.w2
              have z874 := (rv_c I841 J866 (I841.up h_o0) (k := 22) rfl).trans z851
              have z875 := (rv_c I841 J866 (I841.up h_o0) (k := 24) rfl).trans z852
              have z876 := (ra_call I841 J866 (I841.up h_o0) (k := 5) rfl rfl rfl 44).trans z853
              have z877 := (ra_call I841 J866 (I841.up h_o0) (k := 6) rfl rfl rfl 44).trans z854
              have z878 := (ra_call I841 J866 (I841.up h_o0) (k := 7) rfl rfl rfl ((880 + ra M0 o0 6 44).toNat)).trans z855
              have z879 := (ra_call I841 J866 (I841.up h_o0) (k := 10) rfl rfl rfl ((880 + ra M0 o0 6 44).toNat)).trans z856
              have z880 := (ra_call I841 J866 (I841.up h_o0) (k := 8) rfl rfl rfl ((880 + ra M0 o0 6 44).toNat)).trans z859
              have E881 : rE M0 M863 o0 0 3 := E857.trans f870 (by decide) (yR.2 5 _ _ rfl 44).1 (by decide) (by decide)
              have K882 : rK M0 M863 o0 ((880 + ra M0 o0 6 44).toNat) := K860.same (sA_c I841 J866 (I841.up h_o0) (by decide))
              have K883 : nN M863 o0 := K861.same (sA_c I841 J866 (I841.up h_o0) (by decide)) (sF_c I841 J866 (I841.up h_o0) (by decide))
              clear z851 z852 z853 z854 z855 z856 z859
              have q884 := J866.keep t824 (by decide) (K842 _ 13 6 _ q837)
              have t885 := J866.up t838
              have q886 := J866.keep t824 (by decide) (K842 _ 13 8 _ q839)
              have t887 := J866.up t825
              refine mv_aload_n d_TrustDeskModel_readRule_257 rfl rfl ?_
              obtain ⟨a889, q888, t_a889⟩ := tm_atR I867 t871 (k := 12) rfl
              refine tr_getK q888 d_TrustDeskModel_readRule_258 f_TrustDeskModel_41_13 ?_
              refine mv_iload_n d_TrustDeskModel_readRule_261 rfl rfl ?_
              refine mv_aload_n d_TrustDeskModel_readRule_262 rfl rfl ?_
              obtain ⟨a891, q890, t_a891⟩ := tm_atR I867 t871 (k := 5) rfl
              refine tr_getK q890 d_TrustDeskModel_readRule_263 f_TrustDeskModel_20_13 ?_
              refine mv_bipush (v := 44) d_TrustDeskModel_readRule_266 (by decide) ?_
              refine tr_ialdR (o := o0) (k := 5) I867 q890 t_a891 (by decide) d_TrustDeskModel_readRule_268 (by unfold vp_in; decide) (fun v892 e893 => ?_)
              have := R869.a (k := 5) rfl (44 : Int32).toNatClampNeg
              have : v892.toInt = ra M863 o0 5 44 := e893
              have : v892.toInt = _ := Eq.trans e893 z876
              refine tr_iastR (k := 12) I867 R869 (I867.up h_o0) q888 t_a889 (by decide) (by decide) (fun lo hi h => by cases h; have := R869.1 15 _ _ rfl; have := R869.1 16 _ _ rfl; have := R869.1 19 _ _ rfl; exact ⟨by show (0 : Int) ≤ v892.toInt; omega, by show v892.toInt ≤ (400 : Int); omega⟩) (Or.inl (by decide)) d_TrustDeskModel_readRule_269 (vp_in_iff.mpr (by have := R869.1 15 _ _ rfl; have := R869.1 16 _ _ rfl; have := R869.1 19 _ _ rfl; omega)) (fun M894 I895 K896 R897 E898 A899 V900 => ?_)
              have z901 := (V900 15)
              have z902 := (V900 16)
              have z903 := (V900 17)
              have z904 := (V900 19)
              have z905 := (V900 22).trans z874
              have z906 := (V900 24).trans z875
              have z907 := (A899 5 (by decide) rfl 44).trans z876
              have z908 := (A899 6 (by decide) rfl 44).trans z877
              have z909 := (A899 7 (by decide) rfl ((880 + ra M0 o0 6 44).toNat)).trans z878
              have z910 := (A899 10 (by decide) rfl ((880 + ra M0 o0 6 44).toNat)).trans z879
              have z911 := (A899 8 (by decide) rfl ((880 + ra M0 o0 6 44).toNat)).trans z880
              have E912 : rE M0 M894 o0 0 3 := E881.same (fun k _ _ => V900 k) (fun k h1 h2 => A899 k (by omega) (by rcases (show k = 4 ∨ k = 5 by omega) with rfl | rfl <;> rfl))
              have h913 : (880 + ra M0 o0 6 44).toNat = v42.toNatClampNeg := by have := mz_nat9 (i := v42) (by have := R869.1 15 _ _ rfl; have := R869.1 16 _ _ rfl; have := R869.1 19 _ _ rfl; omega); have := R869.1 15 _ _ rfl; have := R869.1 16 _ _ rfl; have := R869.1 19 _ _ rfl; omega
              have z914 : ra M894 o0 12 ((880 + ra M0 o0 6 44).toNat) = v892.toInt := (E898 _).trans (if_pos h913)
              have K915 : rK M0 M894 o0 ((880 + ra M0 o0 6 44).toNat) := K882.st A899 E898 (by have := mz_nat9 (i := v42) (by have := R869.1 15 _ _ rfl; have := R869.1 16 _ _ rfl; have := R869.1 19 _ _ rfl; omega); have := R869.1 15 _ _ rfl; have := R869.1 16 _ _ rfl; have := R869.1 19 _ _ rfl; omega)
              have K916 : nN M894 o0 := K883.same (sA_a A899 (by decide)) (sF_a V900)
              clear z874 z875 z876 z877 z878 z879 z880
              exact mv_vret d_TrustDeskModel_readRule_270 rfl ⟨_, I895, rfl, R897, (rW.of E912.1 (E912.s yS (by decide)) (fun w9 => by have u91 : rv M863 o0 19 = 0 := (by omega); have := f872.o u91; have := f873.o u91; have u92 : rv M814 o0 19 = 0 := (by omega); have := f826.o u92; have := f827.o u92; have u93 : rv M36 o0 19 = 0 := (by omega); have := f51.o u93; have := f52.o u93; exact rG.step yG yR E912 w9 K915 (by have := yR.2 6 _ _ rfl 44; omega) (by have := R897.1 15 _ _ rfl; have := R897.1 16 _ _ rfl; have := R897.1 19 _ _ rfl; omega) (by have := R897.1 15 _ _ rfl; have := R897.1 16 _ _ rfl; have := R897.1 19 _ _ rfl; omega) (fun h9 => by exfalso; have := R897.1 15 _ _ rfl; have := R897.1 16 _ _ rfl; have := R897.1 19 _ _ rfl; omega) (fun h9 => (by have := R897.1 15 _ _ rfl; have := R897.1 16 _ _ rfl; have := R897.1 19 _ _ rfl; omega)) (by have := R897.1 15 _ _ rfl; have := R897.1 16 _ _ rfl; have := R897.1 19 _ _ rfl; omega) K916)), (rO.of E912 K915 (by have := yR.2 6 _ _ rfl 44; omega)), ⟨E912.2.1, fun w9 => by skip; have := E912.w2 w9; omega⟩, (fun w9 => by have u91 : rv M863 o0 19 = 0 := (by omega); have := f872.o u91; have := f873.o u91; have u92 : rv M814 o0 19 = 0 := (by omega); have := f826.o u92; have := f827.o u92; have u93 : rv M36 o0 19 = 0 := (by omega); have := f51.o u93; have := f52.o u93; omega)⟩
        · refine mv_aload_n d_TrustDeskModel_readRule_55 rfl rfl ?_
          obtain ⟨a918, q917, t_a918⟩ := tm_atR I40 t50 (k := 8) rfl
          refine tr_getK q917 d_TrustDeskModel_readRule_56 f_TrustDeskModel_29_13 ?_
          refine mv_iload_n d_TrustDeskModel_readRule_59 rfl rfl ?_
          refine mv_aload_n d_TrustDeskModel_readRule_60 rfl rfl ?_
          refine mv_ldcSw (id := 21) (tx := "near") d_TrustDeskModel_readRule_61 (List.mem_of_getElem? (i := 11) rfl) ?_
          obtain ⟨_, b925, -⟩ := I40.1 _ _ t50
          refine mv_callV (kc' := 0) (ks' := 0) (As := [.ref 21]) (st9 := [.ref 21, .ref o0, .int v42, .ref a918]) d_TrustDeskModel_readRule_64 lV_TrustDeskModel_244 b925 rfl (tc_TrustDeskModel_isWord_s1_21_x (d := (d + 20)) (x9 := x9) (o0 := o0) t50 R43 I40.start) rfl (Nat.le_of_ble_eq_true rfl) (Nat.le_of_ble_eq_true rfl) (Nat.le_of_ble_eq_true rfl) (hst := rfl) (fun b919r M920 n921 b919 => ?_)
          obtain ⟨T922, J923, v926, rfl, b927, b928, R929, f930⟩ := b919
          have I924 := I40.call J923 (tm_sub (by decide)) (Or.inl rfl)
          have t931 := J923.up t50
          have t932 := J923.up t_a918
          replace f930 := Im.i f930
          have z933 := (rv_c I40 J923 (I40.up h_o0) (k := 15) rfl)
          have z934 := (rv_c I40 J923 (I40.up h_o0) (k := 16) rfl)
          have z935 := (rv_c I40 J923 (I40.up h_o0) (k := 17) rfl)
          have z936 := (rv_c I40 J923 (I40.up h_o0) (k := 19) rfl).trans z53
          have z937 := (rv_c I40 J923 (I40.up h_o0) (k := 22) rfl).trans z54
          have z938 := (rv_c I40 J923 (I40.up h_o0) (k := 24) rfl).trans z55
          have z939 := (ra_call I40 J923 (I40.up h_o0) (k := 5) rfl rfl rfl 44).trans z56
          have z940 := (ra_call I40 J923 (I40.up h_o0) (k := 6) rfl rfl rfl 44)
          have z941 := (ra_call I40 J923 (I40.up h_o0) (k := 7) rfl rfl rfl ((880 + ra M0 o0 6 44).toNat))
          have z942 := (ra_call I40 J923 (I40.up h_o0) (k := 10) rfl rfl rfl ((880 + ra M0 o0 6 44).toNat))
          have E943 : rE M0 M920 o0 0 1 := E57.same (rE_hv I40 J923 (I40.up h_o0) 15 19 (by decide)) (rE_ha I40 J923 (I40.up h_o0) (by decide))
          have K944 : rK M0 M920 o0 ((880 + ra M0 o0 6 44).toNat) := K59.same (sA_c I40 J923 (I40.up h_o0) (by decide))
          have K945 : nN M920 o0 := K60.same (sA_c I40 J923 (I40.up h_o0) (by decide)) (sF_c I40 J923 (I40.up h_o0) (by decide))
          clear z54 z55 z56
          have q946 := J923.keep t50 (by decide) q61
          have t947 := J923.up t62
          have q948 := J923.keep t50 (by decide) q63
          have q949 := J923.keep t50 (by decide) q917
          have := mz_hi v926
          refine mv_if_eqZ (tgt := 74) (a := v926.toInt) d_TrustDeskModel_readRule_67 (by decide) rfl (fun b950 => ?_) (fun b950 => ?_)
          · refine mv_aload_n d_TrustDeskModel_readRule_74 rfl rfl ?_
            refine mv_ldcSw (id := 22) (tx := "join") d_TrustDeskModel_readRule_75 (List.mem_of_getElem? (i := 12) rfl) ?_
            obtain ⟨_, b957, -⟩ := I924.1 _ _ t931
            refine mv_callV (kc' := 0) (ks' := 0) (As := [.ref 22]) (st9 := [.ref 22, .ref o0, .int v42, .ref a918]) d_TrustDeskModel_readRule_78 lV_TrustDeskModel_244 b957 rfl (tc_TrustDeskModel_isWord_s1_22_x (d := (d + 20)) (x9 := x9) (o0 := o0) t931 R929 I924.start) rfl (Nat.le_of_ble_eq_true rfl) (Nat.le_of_ble_eq_true rfl) (Nat.le_of_ble_eq_true rfl) (hst := rfl) (fun b951r M952 n953 b951 => ?_)
            obtain ⟨T954, J955, v958, rfl, b959, b960, R961, f962⟩ := b951
            have I956 := I924.call J955 (tm_sub (by decide)) (Or.inl rfl)
            have t963 := J955.up t931
            have t964 := J955.up t932
            replace f962 := Im.i f962
            have z965 := (rv_c I924 J955 (I924.up h_o0) (k := 15) rfl).trans z933
            have z966 := (rv_c I924 J955 (I924.up h_o0) (k := 16) rfl).trans z934
            have z967 := (rv_c I924 J955 (I924.up h_o0) (k := 17) rfl).trans z935
            have z968 := (rv_c I924 J955 (I924.up h_o0) (k := 19) rfl).trans z936
            have z969 := (rv_c I924 J955 (I924.up h_o0) (k := 22) rfl).trans z937
            have z970 := (rv_c I924 J955 (I924.up h_o0) (k := 24) rfl).trans z938
            have z971 := (ra_call I924 J955 (I924.up h_o0) (k := 5) rfl rfl rfl 44).trans z939
            have z972 := (ra_call I924 J955 (I924.up h_o0) (k := 6) rfl rfl rfl 44).trans z940
            have z973 := (ra_call I924 J955 (I924.up h_o0) (k := 7) rfl rfl rfl ((880 + ra M0 o0 6 44).toNat)).trans z941
            have z974 := (ra_call I924 J955 (I924.up h_o0) (k := 10) rfl rfl rfl ((880 + ra M0 o0 6 44).toNat)).trans z942
            have E975 : rE M0 M952 o0 0 1 := E943.same (rE_hv I924 J955 (I924.up h_o0) 15 19 (by decide)) (rE_ha I924 J955 (I924.up h_o0) (by decide))
            have K976 : rK M0 M952 o0 ((880 + ra M0 o0 6 44).toNat) := K944.same (sA_c I924 J955 (I924.up h_o0) (by decide))
            have K977 : nN M952 o0 := K945.same (sA_c I924 J955 (I924.up h_o0) (by decide)) (sF_c I924 J955 (I924.up h_o0) (by decide))
            clear z933 z934 z937 z938 z939 z940 z941 z942
            have q978 := J955.keep t931 (by decide) q946
            have t979 := J955.up t947
            have q980 := J955.keep t931 (by decide) q948
            have q981 := J955.keep t931 (by decide) q949
            have := mz_hi v958
            refine mv_if_eqZ (tgt := 88) (a := v958.toInt) d_TrustDeskModel_readRule_81 (by decide) rfl (fun b982 => ?_) (fun b982 => ?_)
            · refine mv_aload_n d_TrustDeskModel_readRule_88 rfl rfl ?_
              refine mv_ldcSw (id := 23) (tx := "sale") d_TrustDeskModel_readRule_89 (List.mem_of_getElem? (i := 13) rfl) ?_
              obtain ⟨_, b989, -⟩ := I956.1 _ _ t963
              refine mv_callV (kc' := 0) (ks' := 0) (As := [.ref 23]) (st9 := [.ref 23, .ref o0, .int v42, .ref a918]) d_TrustDeskModel_readRule_92 lV_TrustDeskModel_244 b989 rfl (tc_TrustDeskModel_isWord_s1_23_x (d := (d + 20)) (x9 := x9) (o0 := o0) t963 R961 I956.start) rfl (Nat.le_of_ble_eq_true rfl) (Nat.le_of_ble_eq_true rfl) (Nat.le_of_ble_eq_true rfl) (hst := rfl) (fun b983r M984 n985 b983 => ?_)
              obtain ⟨T986, J987, v990, rfl, b991, b992, R993, f994⟩ := b983
              have I988 := I956.call J987 (tm_sub (by decide)) (Or.inl rfl)
              have t995 := J987.up t963
              have t996 := J987.up t964
              replace f994 := Im.i f994
              have z997 := (rv_c I956 J987 (I956.up h_o0) (k := 15) rfl).trans z965
              have z998 := (rv_c I956 J987 (I956.up h_o0) (k := 16) rfl).trans z966
              have z999 := (rv_c I956 J987 (I956.up h_o0) (k := 17) rfl).trans z967
              have z1000 := (rv_c I956 J987 (I956.up h_o0) (k := 19) rfl).trans z968
              have z1001 := (rv_c I956 J987 (I956.up h_o0) (k := 22) rfl).trans z969
              have z1002 := (rv_c I956 J987 (I956.up h_o0) (k := 24) rfl).trans z970
              have z1003 := (ra_call I956 J987 (I956.up h_o0) (k := 5) rfl rfl rfl 44).trans z971
              have z1004 := (ra_call I956 J987 (I956.up h_o0) (k := 6) rfl rfl rfl 44).trans z972
              have z1005 := (ra_call I956 J987 (I956.up h_o0) (k := 7) rfl rfl rfl ((880 + ra M0 o0 6 44).toNat)).trans z973
              have z1006 := (ra_call I956 J987 (I956.up h_o0) (k := 10) rfl rfl rfl ((880 + ra M0 o0 6 44).toNat)).trans z974
              have E1007 : rE M0 M984 o0 0 1 := E975.same (rE_hv I956 J987 (I956.up h_o0) 15 19 (by decide)) (rE_ha I956 J987 (I956.up h_o0) (by decide))
              have K1008 : rK M0 M984 o0 ((880 + ra M0 o0 6 44).toNat) := K976.same (sA_c I956 J987 (I956.up h_o0) (by decide))
              have K1009 : nN M984 o0 := K977.same (sA_c I956 J987 (I956.up h_o0) (by decide)) (sF_c I956 J987 (I956.up h_o0) (by decide))
              clear z965 z966 z969 z970 z971 z972 z973 z974
              have q1010 := J987.keep t963 (by decide) q978
              have t1011 := J987.up t979
              have q1012 := J987.keep t963 (by decide) q980
              have q1013 := J987.keep t963 (by decide) q981
              have := mz_hi v990
              refine mv_if_eqZ (tgt := 102) (a := v990.toInt) d_TrustDeskModel_readRule_95 (by decide) rfl (fun b1014 => ?_) (fun b1014 => ?_)
              · refine mv_aload_n d_TrustDeskModel_readRule_102 rfl rfl ?_
                refine mv_ldcSw (id := 24) (tx := "strike") d_TrustDeskModel_readRule_103 (List.mem_of_getElem? (i := 14) rfl) ?_
                obtain ⟨_, b1021, -⟩ := I988.1 _ _ t995
                refine mv_callV (kc' := 0) (ks' := 0) (As := [.ref 24]) (st9 := [.ref 24, .ref o0, .int v42, .ref a918]) d_TrustDeskModel_readRule_106 lV_TrustDeskModel_244 b1021 rfl (tc_TrustDeskModel_isWord_s1_24_x (d := (d + 20)) (x9 := x9) (o0 := o0) t995 R993 I988.start) rfl (Nat.le_of_ble_eq_true rfl) (Nat.le_of_ble_eq_true rfl) (Nat.le_of_ble_eq_true rfl) (hst := rfl) (fun b1015r M1016 n1017 b1015 => ?_)
                obtain ⟨T1018, J1019, v1022, rfl, b1023, b1024, R1025, f1026⟩ := b1015
                have I1020 := I988.call J1019 (tm_sub (by decide)) (Or.inl rfl)
                have t1027 := J1019.up t995
                have t1028 := J1019.up t996
                replace f1026 := Im.i f1026
                have z1029 := (rv_c I988 J1019 (I988.up h_o0) (k := 15) rfl).trans z997
                have z1030 := (rv_c I988 J1019 (I988.up h_o0) (k := 16) rfl).trans z998
                have z1031 := (rv_c I988 J1019 (I988.up h_o0) (k := 17) rfl).trans z999
                have z1032 := (rv_c I988 J1019 (I988.up h_o0) (k := 19) rfl).trans z1000
                have z1033 := (rv_c I988 J1019 (I988.up h_o0) (k := 22) rfl).trans z1001
                have z1034 := (rv_c I988 J1019 (I988.up h_o0) (k := 24) rfl).trans z1002
                have z1035 := (ra_call I988 J1019 (I988.up h_o0) (k := 5) rfl rfl rfl 44).trans z1003
                have z1036 := (ra_call I988 J1019 (I988.up h_o0) (k := 6) rfl rfl rfl 44).trans z1004
                have z1037 := (ra_call I988 J1019 (I988.up h_o0) (k := 7) rfl rfl rfl ((880 + ra M0 o0 6 44).toNat)).trans z1005
                have z1038 := (ra_call I988 J1019 (I988.up h_o0) (k := 10) rfl rfl rfl ((880 + ra M0 o0 6 44).toNat)).trans z1006
                have E1039 : rE M0 M1016 o0 0 1 := E1007.same (rE_hv I988 J1019 (I988.up h_o0) 15 19 (by decide)) (rE_ha I988 J1019 (I988.up h_o0) (by decide))
                have K1040 : rK M0 M1016 o0 ((880 + ra M0 o0 6 44).toNat) := K1008.same (sA_c I988 J1019 (I988.up h_o0) (by decide))
                have K1041 : nN M1016 o0 := K1009.same (sA_c I988 J1019 (I988.up h_o0) (by decide)) (sF_c I988 J1019 (I988.up h_o0) (by decide))
                clear z997 z998 z1001 z1002 z1003 z1004 z1005 z1006
                have q1042 := J1019.keep t995 (by decide) q1010
                have t1043 := J1019.up t1011
                have q1044 := J1019.keep t995 (by decide) q1012
                have q1045 := J1019.keep t995 (by decide) q1013
                have := mz_hi v1022
                refine mv_if_eqZ (tgt := 116) (a := v1022.toInt) d_TrustDeskModel_readRule_109 (by decide) rfl (fun b1046 => ?_) (fun b1046 => ?_)
                · refine mv_iconst (v := (-1)) d_TrustDeskModel_readRule_116 (by decide) ?_
                  refine tr_iastR (k := 8) I1020 R1025 (I1020.up h_o0) q1045 t1028 (by decide) (by decide) (fun lo hi h => by cases h; exact (by decide)) (Or.inl (by decide)) d_TrustDeskModel_readRule_117 (vp_in_iff.mpr (by have := R1025.1 15 _ _ rfl; have := R1025.1 16 _ _ rfl; have := R1025.1 19 _ _ rfl; omega)) (fun M1047 I1048 K1049 R1050 E1051 A1052 V1053 => ?_)
                  have z1054 := (V1053 15).trans z1029
                  have z1055 := (V1053 16).trans z1030
                  have z1056 := (V1053 17).trans z1031
                  have z1057 := (V1053 19).trans z1032
                  have z1058 := (V1053 22).trans z1033
                  have z1059 := (V1053 24).trans z1034
                  have z1060 := (A1052 5 (by decide) rfl 44).trans z1035
                  have z1061 := (A1052 6 (by decide) rfl 44).trans z1036
                  have z1062 := (A1052 7 (by decide) rfl ((880 + ra M0 o0 6 44).toNat)).trans z1037
                  have z1063 := (A1052 10 (by decide) rfl ((880 + ra M0 o0 6 44).toNat)).trans z1038
                  have E1064 : rE M0 M1047 o0 0 1 := E1039.same (fun k _ _ => V1053 k) (fun k h1 h2 => A1052 k (by omega) (by rcases (show k = 4 ∨ k = 5 by omega) with rfl | rfl <;> rfl))
                  have h1065 : (880 + ra M0 o0 6 44).toNat = v42.toNatClampNeg := by have := mz_nat9 (i := v42) (by have := R1025.1 15 _ _ rfl; have := R1025.1 16 _ _ rfl; have := R1025.1 19 _ _ rfl; omega); have := R1025.1 15 _ _ rfl; have := R1025.1 16 _ _ rfl; have := R1025.1 19 _ _ rfl; omega
                  have z1066 : ra M1047 o0 8 ((880 + ra M0 o0 6 44).toNat) = (-1) := (E1051 _).trans (if_pos h1065)
                  have K1067 : rK M0 M1047 o0 ((880 + ra M0 o0 6 44).toNat) := K1040.st A1052 E1051 (by have := mz_nat9 (i := v42) (by have := R1025.1 15 _ _ rfl; have := R1025.1 16 _ _ rfl; have := R1025.1 19 _ _ rfl; omega); have := R1025.1 15 _ _ rfl; have := R1025.1 16 _ _ rfl; have := R1025.1 19 _ _ rfl; omega)
                  have K1068 : nN M1047 o0 := K1041.same (sA_a A1052 (by decide)) (sF_a V1053)
                  clear z1029 z1030 z1031 z1033 z1034 z1035 z1036 z1037 z1038
                  refine mv_aload_n d_TrustDeskModel_readRule_118 rfl rfl ?_
                  refine tr_getK (k := 8) (K1049 _ 13 8 _ q1045) d_TrustDeskModel_readRule_119 f_TrustDeskModel_29_13 ?_
                  refine mv_iload_n d_TrustDeskModel_readRule_122 rfl rfl ?_
                  refine tr_ialdR (o := o0) (k := 8) I1048 (K1049 _ 13 8 _ q1045) t1028 (by decide) d_TrustDeskModel_readRule_123 (vp_in_iff.mpr (by have := R1050.1 15 _ _ rfl; have := R1050.1 16 _ _ rfl; have := R1050.1 19 _ _ rfl; omega)) (fun v1069 e1070 => ?_)
                  have := R1050.a (k := 8) rfl (v42 : Int32).toNatClampNeg
                  have h1071 : (880 + ra M0 o0 6 44).toNat = v42.toNatClampNeg := by have := mz_nat9 (i := v42) (by have := R1050.1 15 _ _ rfl; have := R1050.1 16 _ _ rfl; have := R1050.1 19 _ _ rfl; omega); have := R1050.1 15 _ _ rfl; have := R1050.1 16 _ _ rfl; have := R1050.1 19 _ _ rfl; omega
                  have z1072 : v1069.toInt = ra M1047 o0 8 ((880 + ra M0 o0 6 44).toNat) := by rw [e1070, h1071]
                  have : v1069.toInt = _ := Eq.trans z1072 z1066
                  refine mv_iconst (v := (-1)) d_TrustDeskModel_readRule_124 (by decide) ?_
                  have := mz_hi v1069
                  refine mv_icmp_neZ (tgt := 133) (a := v1069.toInt) (b := (-1)) d_TrustDeskModel_readRule_125 (by decide) rfl (by decide) (fun b1073 => absurd b1073 (by omega)) (fun b1073 => ?_)
                  refine mv_aload_n d_TrustDeskModel_readRule_128 rfl rfl ?_
                  refine mv_iconst (v := 1) d_TrustDeskModel_readRule_129 (by decide) ?_
                  obtain ⟨_, b1080, -⟩ := I1048.1 _ _ t1027
                  have : (1 : Int32).toInt = 1 := by decide
                  refine mv_callV (kc' := 0) (ks' := 0) (As := [.int 1]) (st9 := [.int 1, .ref o0]) d_TrustDeskModel_readRule_130 lV_TrustDeskModel_240 b1080 rfl (tc_TrustDeskModel_fails_x (d := (d + 24)) (x9 := x9) (o0 := o0) (x1 := 1) t1027 R1050 (by decide) I1048.start) rfl (Nat.le_of_ble_eq_true rfl) (Nat.le_of_ble_eq_true rfl) (Nat.le_of_ble_eq_true rfl) (hst := rfl) (fun b1074r M1075 n1076 b1074 => ?_)
                  obtain ⟨T1077, J1078, rfl, R1081, f1082⟩ := b1074
                  have I1079 := I1048.call J1078 (tm_sub (by decide)) (Or.inl rfl)
                  have t1083 := J1078.up t1027
                  have z1084 := (rv_c I1048 J1078 (I1048.up h_o0) (k := 15) rfl).trans z1054
                  have z1085 := (rv_c I1048 J1078 (I1048.up h_o0) (k := 16) rfl).trans z1055
                  have z1086 := (rv_c I1048 J1078 (I1048.up h_o0) (k := 17) rfl).trans z1056
                  have z1087 := (rv_c I1048 J1078 (I1048.up h_o0) (k := 22) rfl).trans z1058
                  have z1088 := (rv_c I1048 J1078 (I1048.up h_o0) (k := 24) rfl).trans z1059
                  have z1089 := (ra_call I1048 J1078 (I1048.up h_o0) (k := 5) rfl rfl rfl 44).trans z1060
                  have z1090 := (ra_call I1048 J1078 (I1048.up h_o0) (k := 6) rfl rfl rfl 44).trans z1061
                  have z1091 := (ra_call I1048 J1078 (I1048.up h_o0) (k := 7) rfl rfl rfl ((880 + ra M0 o0 6 44).toNat)).trans z1062
                  have z1092 := (ra_call I1048 J1078 (I1048.up h_o0) (k := 10) rfl rfl rfl ((880 + ra M0 o0 6 44).toNat)).trans z1063
                  have z1093 := (ra_call I1048 J1078 (I1048.up h_o0) (k := 8) rfl rfl rfl ((880 + ra M0 o0 6 44).toNat)).trans z1066
                  have E1094 : rE M0 M1075 o0 0 1 := E1064.fails (rE_hv I1048 J1078 (I1048.up h_o0) 15 18 (by decide)) (rE_ha I1048 J1078 (I1048.up h_o0) (by decide)) f1082 0 1
                  have K1095 : rK M0 M1075 o0 ((880 + ra M0 o0 6 44).toNat) := K1067.same (sA_c I1048 J1078 (I1048.up h_o0) (by decide))
                  have K1096 : nN M1075 o0 := K1068.same (sA_c I1048 J1078 (I1048.up h_o0) (by decide)) (sF_c I1048 J1078 (I1048.up h_o0) (by decide))
                  clear z1054 z1055 z1056 z1058 z1059 z1060 z1061 z1062 z1063 z1066
                  have q1097 := J1078.keep t1027 (by decide) (K1049 _ 13 6 _ q1042)
                  have t1098 := J1078.up t1043
                  have q1099 := J1078.keep t1027 (by decide) (K1049 _ 13 8 _ q1045)
                  have t1100 := J1078.up t1028
                  refine mv_aload_n d_TrustDeskModel_readRule_133 rfl rfl ?_
                  obtain ⟨_, b1101, -⟩ := I1079.1 _ _ t1083
                  refine mv_callV (kc1 := 0) (ks1 := 0) (kc' := 0) (ks' := 0) (As := []) (st9 := [.ref o0]) d_TrustDeskModel_readRule_134 lV_TrustDeskModel_230 b1101 rfl (mj_enter (by decide) (Nat.le_of_ble_eq_true rfl) ?_) rfl (Nat.le_of_ble_eq_true rfl) (Nat.le_of_ble_eq_true rfl) (Nat.le_of_ble_eq_true rfl) (hst := rfl) (fun _ _ _ h => h)
                  refine mv_aload_n d_TrustDeskModel_isWell_0 rfl rfl ?_
                  obtain ⟨v1103, q1102⟩ := tm_atI I1079 t1083 (k := 19) rfl
                  refine tr_getK q1102 d_TrustDeskModel_isWell_1 f_TrustDeskModel_224_13 ?_
                  have := R1081.f (k := 19) q1102 rfl
                  have := tm_rv q1102
                  refine mv_if_neZ (tgt := 11) (a := v1103.toInt) d_TrustDeskModel_isWell_4 (by decide) rfl (fun b1104 => ?_) (fun b1104 => ?_)
                  · refine mv_iconst (v := 0) d_TrustDeskModel_isWell_11 (by decide) ?_
                    refine mv_iret d_TrustDeskModel_isWell_12 rfl (by decide) ?_
                    refine mv_if_eq_t (tgt := 144) d_TrustDeskModel_readRule_137 (by decide) (by decide) ?_
                    refine mv_aload_n d_TrustDeskModel_readRule_144 rfl rfl ?_
                    refine mv_ldcSw (id := 25) (tx := "if") d_TrustDeskModel_readRule_145 (List.mem_of_getElem? (i := 15) rfl) ?_
                    obtain ⟨_, b1111, -⟩ := I1079.1 _ _ t1083
                    refine mv_callV (kc' := 0) (ks' := 0) (As := [.ref 25]) (st9 := [.ref 25, .ref o0]) d_TrustDeskModel_readRule_148 lV_TrustDeskModel_329 b1111 rfl (tc_TrustDeskModel_wantWord_s1_25_x (d := (d + 19)) (x9 := x9) (o0 := o0) t1083 R1081 E1094.1 (E1094.s yS (by decide)) I1079.start) rfl (Nat.le_of_ble_eq_true rfl) (Nat.le_of_ble_eq_true rfl) (Nat.le_of_ble_eq_true rfl) (hst := rfl) (fun b1105r M1106 n1107 b1105 => ?_)
                    obtain ⟨T1108, J1109, rfl, R1112, f1113⟩ := b1105
                    have I1110 := I1079.call J1109 (tm_sub (by decide)) (Or.inl rfl)
                    have t1114 := J1109.up t1083
                    have := f1113.2.1
                    have f1115 := Im.i f1113.w.2
                    have f1116 := Im.i f1113.w2
                    have z1117 := (rv_c I1079 J1109 (I1079.up h_o0) (k := 22) rfl).trans z1087
                    have z1118 := (rv_c I1079 J1109 (I1079.up h_o0) (k := 24) rfl).trans z1088
                    have z1119 := (ra_call I1079 J1109 (I1079.up h_o0) (k := 5) rfl rfl rfl 44).trans z1089
                    have z1120 := (ra_call I1079 J1109 (I1079.up h_o0) (k := 6) rfl rfl rfl 44).trans z1090
                    have z1121 := (ra_call I1079 J1109 (I1079.up h_o0) (k := 7) rfl rfl rfl ((880 + ra M0 o0 6 44).toNat)).trans z1091
                    have z1122 := (ra_call I1079 J1109 (I1079.up h_o0) (k := 10) rfl rfl rfl ((880 + ra M0 o0 6 44).toNat)).trans z1092
                    have z1123 := (ra_call I1079 J1109 (I1079.up h_o0) (k := 8) rfl rfl rfl ((880 + ra M0 o0 6 44).toNat)).trans z1093
                    have E1124 : rE M0 M1106 o0 0 2 := E1094.trans f1113 (by decide) (yR.2 5 _ _ rfl 44).1 (by decide) (by decide)
                    have K1125 : rK M0 M1106 o0 ((880 + ra M0 o0 6 44).toNat) := K1095.same (sA_c I1079 J1109 (I1079.up h_o0) (by decide))
                    have K1126 : nN M1106 o0 := K1096.same (sA_c I1079 J1109 (I1079.up h_o0) (by decide)) (sF_c I1079 J1109 (I1079.up h_o0) (by decide))
                    clear z1087 z1088 z1089 z1090 z1091 z1092 z1093
                    have q1127 := J1109.keep t1083 (by decide) q1097
                    have t1128 := J1109.up t1098
                    have q1129 := J1109.keep t1083 (by decide) q1099
                    have t1130 := J1109.up t1100
                    refine mv_aload_n d_TrustDeskModel_readRule_151 rfl rfl ?_
                    obtain ⟨a1132, q1131, t_a1132⟩ := tm_atR I1110 t1114 (k := 11) rfl
                    refine tr_getK q1131 d_TrustDeskModel_readRule_152 f_TrustDeskModel_38_13 ?_
                    refine mv_iload_n d_TrustDeskModel_readRule_155 rfl rfl ?_
                    refine mv_aload_n d_TrustDeskModel_readRule_156 rfl rfl ?_
                    obtain ⟨a1134, q1133, t_a1134⟩ := tm_atR I1110 t1114 (k := 5) rfl
                    refine tr_getK q1133 d_TrustDeskModel_readRule_157 f_TrustDeskModel_20_13 ?_
                    refine mv_bipush (v := 44) d_TrustDeskModel_readRule_160 (by decide) ?_
                    refine tr_ialdR (o := o0) (k := 5) I1110 q1133 t_a1134 (by decide) d_TrustDeskModel_readRule_162 (by unfold vp_in; decide) (fun v1135 e1136 => ?_)
                    have := R1112.a (k := 5) rfl (44 : Int32).toNatClampNeg
                    have : v1135.toInt = ra M1106 o0 5 44 := e1136
                    have : v1135.toInt = _ := Eq.trans e1136 z1119
                    refine tr_iastR (k := 11) I1110 R1112 (I1110.up h_o0) q1131 t_a1132 (by decide) (by decide) (fun lo hi h => by cases h; have := R1112.1 15 _ _ rfl; have := R1112.1 16 _ _ rfl; have := R1112.1 19 _ _ rfl; exact ⟨by show (0 : Int) ≤ v1135.toInt; omega, by show v1135.toInt ≤ (400 : Int); omega⟩) (Or.inl (by decide)) d_TrustDeskModel_readRule_163 (vp_in_iff.mpr (by have := R1112.1 15 _ _ rfl; have := R1112.1 16 _ _ rfl; have := R1112.1 19 _ _ rfl; omega)) (fun M1137 I1138 K1139 R1140 E1141 A1142 V1143 => ?_)
                    have z1144 := (V1143 15)
                    have z1145 := (V1143 16)
                    have z1146 := (V1143 17)
                    have z1147 := (V1143 19)
                    have z1148 := (V1143 22).trans z1117
                    have z1149 := (V1143 24).trans z1118
                    have z1150 := (A1142 5 (by decide) rfl 44).trans z1119
                    have z1151 := (A1142 6 (by decide) rfl 44).trans z1120
                    have z1152 := (A1142 7 (by decide) rfl ((880 + ra M0 o0 6 44).toNat)).trans z1121
                    have z1153 := (A1142 10 (by decide) rfl ((880 + ra M0 o0 6 44).toNat)).trans z1122
                    have z1154 := (A1142 8 (by decide) rfl ((880 + ra M0 o0 6 44).toNat)).trans z1123
                    have E1155 : rE M0 M1137 o0 0 2 := E1124.same (fun k _ _ => V1143 k) (fun k h1 h2 => A1142 k (by omega) (by rcases (show k = 4 ∨ k = 5 by omega) with rfl | rfl <;> rfl))
                    have h1156 : (880 + ra M0 o0 6 44).toNat = v42.toNatClampNeg := by have := mz_nat9 (i := v42) (by have := R1112.1 15 _ _ rfl; have := R1112.1 16 _ _ rfl; have := R1112.1 19 _ _ rfl; omega); have := R1112.1 15 _ _ rfl; have := R1112.1 16 _ _ rfl; have := R1112.1 19 _ _ rfl; omega
                    have z1157 : ra M1137 o0 11 ((880 + ra M0 o0 6 44).toNat) = v1135.toInt := (E1141 _).trans (if_pos h1156)
                    have K1158 : rK M0 M1137 o0 ((880 + ra M0 o0 6 44).toNat) := K1125.st A1142 E1141 (by have := mz_nat9 (i := v42) (by have := R1112.1 15 _ _ rfl; have := R1112.1 16 _ _ rfl; have := R1112.1 19 _ _ rfl; omega); have := R1112.1 15 _ _ rfl; have := R1112.1 16 _ _ rfl; have := R1112.1 19 _ _ rfl; omega)
                    have K1159 : nN M1137 o0 := K1126.same (sA_a A1142 (by decide)) (sF_a V1143)
                    have F1160 : rE M1137 M1137 o0 0 0 := rE.rf E1155.1
                    have : ra M1137 o0 5 44 = v1135.toInt := by omega
                    clear z1117 z1118 z1119 z1120 z1121 z1122 z1123
                    refine mv_aload_n d_TrustDeskModel_readRule_164 rfl rfl ?_
                    obtain ⟨_, b1167, -⟩ := I1138.1 _ _ t1114
                    refine mv_callV (kc' := 0) (ks' := 0) (As := []) (st9 := [.ref o0]) d_TrustDeskModel_readRule_165 lV_TrustDeskModel_302 b1167 rfl (tc_TrustDeskModel_cond_q5_x (d := d) (x9 := x9) (o0 := o0) t1114 R1140 E1155.1 (E1155.s yS (by decide)) (Classical.byCases (fun w9 : rv M1137 o0 19 = 0 => by have u91 : rv M1106 o0 19 = 0 := (by omega); have := f1115.o u91; have := f1116.o u91; have u92 : rv M36 o0 19 = 0 := (by omega); have := f51.o u92; have := f52.o u92; omega) (fun w9 : ¬ rv M1137 o0 19 = 0 => by omega)) I1138.start) rfl (Nat.le_of_ble_eq_true rfl) (Nat.le_of_ble_eq_true rfl) (Nat.le_of_ble_eq_true rfl) (hst := rfl) (fun b1161r M1162 n1163 b1161 => ?_)
                    obtain ⟨T1164, J1165, rfl, R1168, f1169, f1170⟩ := b1161
                    have I1166 := I1138.call J1165 (tm_sub (by decide)) (Or.inl rfl)
                    have t1171 := J1165.up t1114
                    have := f1169.2.1
                    have f1172 := Im.i f1169.w.2
                    have f1173 := Im.i f1169.w2
                    replace f1170 := Im.i f1170
                    have z1174 := (rv_c I1138 J1165 (I1138.up h_o0) (k := 24) rfl).trans z1149
                    have z1175 := (ra_call I1138 J1165 (I1138.up h_o0) (k := 6) rfl rfl rfl 44).trans z1151
                    have z1176 := (ra_call I1138 J1165 (I1138.up h_o0) (k := 7) rfl rfl rfl ((880 + ra M0 o0 6 44).toNat)).trans z1152
                    have z1177 := (ra_call I1138 J1165 (I1138.up h_o0) (k := 10) rfl rfl rfl ((880 + ra M0 o0 6 44).toNat)).trans z1153
                    have z1178 := (ra_call I1138 J1165 (I1138.up h_o0) (k := 8) rfl rfl rfl ((880 + ra M0 o0 6 44).toNat)).trans z1154
                    have z1179 := (ra_call I1138 J1165 (I1138.up h_o0) (k := 11) rfl rfl rfl ((880 + ra M0 o0 6 44).toNat)).trans z1157
                    have E1180 : rE M0 M1162 o0 1 2 := E1155.trans f1169 (by decide) (yR.2 5 _ _ rfl 44).1 (by decide) (by decide)
                    have K1181 : rK M0 M1162 o0 ((880 + ra M0 o0 6 44).toNat) := K1158.same (sA_c I1138 J1165 (I1138.up h_o0) (by decide))
                    have K1182 : nN M1162 o0 := K1159.same (sA_c I1138 J1165 (I1138.up h_o0) (by decide)) (sF_c I1138 J1165 (I1138.up h_o0) (by decide))
                    have F1183 : rE M1137 M1162 o0 1 0 := F1160.trans f1169 (by decide) (R1140.2 5 _ _ rfl 44).1 (by decide) (by decide)
                    clear z1149 z1151 z1152 z1153 z1154 z1157
                    have q1184 := J1165.keep t1114 (by decide) (K1139 _ 13 6 _ q1127)
                    have t1185 := J1165.up t1128
                    have q1186 := J1165.keep t1114 (by decide) (K1139 _ 13 8 _ q1129)
                    have t1187 := J1165.up t1130
                    have q1188 := J1165.keep t1114 (by decide) (K1139 _ 13 11 _ q1131)
                    have t1189 := J1165.up t_a1132
                    have q1190 := J1165.keep t1114 (by decide) (K1139 _ 13 5 _ q1133)
                    have t1191 := J1165.up t_a1134
                    refine mv_goto (tgt := 251) d_TrustDeskModel_readRule_168 (by decide) ?_
                    refine mv_aload_n d_TrustDeskModel_readRule_251 rfl rfl ?_
                    refine mv_bipush (v := 59) d_TrustDeskModel_readRule_252 (by decide) ?_
                    obtain ⟨_, b1198, -⟩ := I1166.1 _ _ t1171
                    have : (59 : Int32).toInt = 59 := by decide
                    refine mv_callV (kc' := 0) (ks' := 0) (As := [.int 59]) (st9 := [.int 59, .ref o0]) d_TrustDeskModel_readRule_254 lV_TrustDeskModel_291 b1198 rfl (tc_TrustDeskModel_wantSign_x (d := (d + 22)) (x9 := x9) (o0 := o0) (x1 := 59) t1171 R1168 E1180.1 (E1180.s yS (by decide)) I1166.start) rfl (Nat.le_of_ble_eq_true rfl) (Nat.le_of_ble_eq_true rfl) (Nat.le_of_ble_eq_true rfl) (hst := rfl) (fun b1192r M1193 n1194 b1192 => ?_)
                    obtain ⟨T1195, J1196, rfl, R1199, f1200⟩ := b1192
                    have I1197 := I1166.call J1196 (tm_sub (by decide)) (Or.inl rfl)
                    have t1201 := J1196.up t1171
                    have := f1200.2.1
                    have f1202 := Im.i f1200.w.2
                    have f1203 := Im.i f1200.w2
                    have z1204 := (rv_c I1166 J1196 (I1166.up h_o0) (k := 22) rfl)
                    have z1205 := (rv_c I1166 J1196 (I1166.up h_o0) (k := 24) rfl).trans z1174
                    have z1206 := (ra_call I1166 J1196 (I1166.up h_o0) (k := 5) rfl rfl rfl 44)
                    have z1207 := (ra_call I1166 J1196 (I1166.up h_o0) (k := 6) rfl rfl rfl 44).trans z1175
                    have z1208 := (ra_call I1166 J1196 (I1166.up h_o0) (k := 7) rfl rfl rfl ((880 + ra M0 o0 6 44).toNat)).trans z1176
                    have z1209 := (ra_call I1166 J1196 (I1166.up h_o0) (k := 10) rfl rfl rfl ((880 + ra M0 o0 6 44).toNat)).trans z1177
                    have z1210 := (ra_call I1166 J1196 (I1166.up h_o0) (k := 8) rfl rfl rfl ((880 + ra M0 o0 6 44).toNat)).trans z1178
                    have z1211 := (ra_call I1166 J1196 (I1166.up h_o0) (k := 11) rfl rfl rfl ((880 + ra M0 o0 6 44).toNat)).trans z1179
                    have E1212 : rE M0 M1193 o0 1 3 := E1180.trans f1200 (by decide) (yR.2 5 _ _ rfl 44).1 (by decide) (by decide)
                    have K1213 : rK M0 M1193 o0 ((880 + ra M0 o0 6 44).toNat) := K1181.same (sA_c I1166 J1196 (I1166.up h_o0) (by decide))
                    have K1214 : nN M1193 o0 := K1182.same (sA_c I1166 J1196 (I1166.up h_o0) (by decide)) (sF_c I1166 J1196 (I1166.up h_o0) (by decide))
                    have F1215 : rE M1137 M1193 o0 1 1 := F1183.trans f1200 (by decide) (R1140.2 5 _ _ rfl 44).1 (by decide) (by decide)
                    clear z1174 z1175 z1176 z1177 z1178 z1179
                    have q1216 := J1196.keep t1171 (by decide) q1184
                    have t1217 := J1196.up t1185
                    have q1218 := J1196.keep t1171 (by decide) q1186
                    have t1219 := J1196.up t1187
                    have q1220 := J1196.keep t1171 (by decide) q1188
                    have t1221 := J1196.up t1189
                    have q1222 := J1196.keep t1171 (by decide) q1190
                    have t1223 := J1196.up t1191
                    refine mv_aload_n d_TrustDeskModel_readRule_257 rfl rfl ?_
                    obtain ⟨a1225, q1224, t_a1225⟩ := tm_atR I1197 t1201 (k := 12) rfl
                    refine tr_getK q1224 d_TrustDeskModel_readRule_258 f_TrustDeskModel_41_13 ?_
                    refine mv_iload_n d_TrustDeskModel_readRule_261 rfl rfl ?_
                    refine mv_aload_n d_TrustDeskModel_readRule_262 rfl rfl ?_
                    refine tr_getK (k := 5) q1222 d_TrustDeskModel_readRule_263 f_TrustDeskModel_20_13 ?_
                    refine mv_bipush (v := 44) d_TrustDeskModel_readRule_266 (by decide) ?_
                    refine tr_ialdR (o := o0) (k := 5) I1197 q1222 t1223 (by decide) d_TrustDeskModel_readRule_268 (by unfold vp_in; decide) (fun v1226 e1227 => ?_)
                    have := R1199.a (k := 5) rfl (44 : Int32).toNatClampNeg
                    have : v1226.toInt = ra M1193 o0 5 44 := e1227
                    have : v1226.toInt = _ := Eq.trans e1227 z1206
                    refine tr_iastR (k := 12) I1197 R1199 (I1197.up h_o0) q1224 t_a1225 (by decide) (by decide) (fun lo hi h => by cases h; have := R1199.1 15 _ _ rfl; have := R1199.1 16 _ _ rfl; have := R1199.1 19 _ _ rfl; exact ⟨by show (0 : Int) ≤ v1226.toInt; omega, by show v1226.toInt ≤ (400 : Int); omega⟩) (Or.inl (by decide)) d_TrustDeskModel_readRule_269 (vp_in_iff.mpr (by have := R1199.1 15 _ _ rfl; have := R1199.1 16 _ _ rfl; have := R1199.1 19 _ _ rfl; omega)) (fun M1228 I1229 K1230 R1231 E1232 A1233 V1234 => ?_)
                    have z1235 := (V1234 15)
                    have z1236 := (V1234 16)
                    have z1237 := (V1234 17)
                    have z1238 := (V1234 19)
                    have z1239 := (V1234 22).trans z1204
                    have z1240 := (V1234 24).trans z1205
                    have z1241 := (A1233 5 (by decide) rfl 44).trans z1206
                    have z1242 := (A1233 6 (by decide) rfl 44).trans z1207
                    have z1243 := (A1233 7 (by decide) rfl ((880 + ra M0 o0 6 44).toNat)).trans z1208
                    have z1244 := (A1233 10 (by decide) rfl ((880 + ra M0 o0 6 44).toNat)).trans z1209
                    have z1245 := (A1233 8 (by decide) rfl ((880 + ra M0 o0 6 44).toNat)).trans z1210
                    have z1246 := (A1233 11 (by decide) rfl ((880 + ra M0 o0 6 44).toNat)).trans z1211
                    have E1247 : rE M0 M1228 o0 1 3 := E1212.same (fun k _ _ => V1234 k) (fun k h1 h2 => A1233 k (by omega) (by rcases (show k = 4 ∨ k = 5 by omega) with rfl | rfl <;> rfl))
                    have h1248 : (880 + ra M0 o0 6 44).toNat = v42.toNatClampNeg := by have := mz_nat9 (i := v42) (by have := R1199.1 15 _ _ rfl; have := R1199.1 16 _ _ rfl; have := R1199.1 19 _ _ rfl; omega); have := R1199.1 15 _ _ rfl; have := R1199.1 16 _ _ rfl; have := R1199.1 19 _ _ rfl; omega
                    have z1249 : ra M1228 o0 12 ((880 + ra M0 o0 6 44).toNat) = v1226.toInt := (E1232 _).trans (if_pos h1248)
                    have K1250 : rK M0 M1228 o0 ((880 + ra M0 o0 6 44).toNat) := K1213.st A1233 E1232 (by have := mz_nat9 (i := v42) (by have := R1199.1 15 _ _ rfl; have := R1199.1 16 _ _ rfl; have := R1199.1 19 _ _ rfl; omega); have := R1199.1 15 _ _ rfl; have := R1199.1 16 _ _ rfl; have := R1199.1 19 _ _ rfl; omega)
                    have K1251 : nN M1228 o0 := K1214.same (sA_a A1233 (by decide)) (sF_a V1234)
                    have F1252 : rE M1137 M1228 o0 1 1 := F1215.same (fun k _ _ => V1234 k) (fun k h1 h2 => A1233 k (by omega) (by rcases (show k = 4 ∨ k = 5 by omega) with rfl | rfl <;> rfl))
                    clear z1204 z1205 z1206 z1207 z1208 z1209 z1210 z1211
                    exact mv_vret d_TrustDeskModel_readRule_270 rfl ⟨_, I1229, rfl, R1231, (rW.of E1247.1 (fun h9 => by exfalso; have u91 : rv M1193 o0 19 = 0 := (by omega); have := f1202.o u91; have := f1203.o u91; have u92 : rv M1162 o0 19 = 0 := (by omega); have := f1172.o u92; have := f1173.o u92; have := f1170.o u92; have u93 : rv M1106 o0 19 = 0 := (by omega); have := f1115.o u93; have := f1116.o u93; have u94 : rv M36 o0 19 = 0 := (by omega); have := f51.o u94; have := f52.o u94; have := R1231.1 15 _ _ rfl; have := R1231.1 16 _ _ rfl; have := R1231.1 19 _ _ rfl; omega) (fun h9 => by exfalso; have u91 : rv M1193 o0 19 = 0 := (by omega); have := f1202.o u91; have := f1203.o u91; have u92 : rv M1162 o0 19 = 0 := (by omega); have := f1172.o u92; have := f1173.o u92; have := f1170.o u92; have u93 : rv M1106 o0 19 = 0 := (by omega); have := f1115.o u93; have := f1116.o u93; have u94 : rv M36 o0 19 = 0 := (by omega); have := f51.o u94; have := f52.o u94; have := R1231.1 15 _ _ rfl; have := R1231.1 16 _ _ rfl; have := R1231.1 19 _ _ rfl; omega)), (rO.of E1247 K1250 (by have := yR.2 6 _ _ rfl 44; omega)), ⟨E1247.2.1, fun w9 => by skip; have := E1247.w2 w9; omega⟩, (fun w9 => by have u91 : rv M1193 o0 19 = 0 := (by omega); have := f1202.o u91; have := f1203.o u91; have u92 : rv M1162 o0 19 = 0 := (by omega); have := f1172.o u92; have := f1173.o u92; have := f1170.o u92; have u93 : rv M1106 o0 19 = 0 := (by omega); have := f1115.o u93; have := f1116.o u93; have u94 : rv M36 o0 19 = 0 := (by omega); have := f51.o u94; have := f52.o u94; omega)⟩
                  · exfalso
                    have := R1081.1 15 _ _ rfl; have := R1081.1 16 _ _ rfl; have := R1081.1 19 _ _ rfl; omega
                · refine mv_iconst (v := 3) d_TrustDeskModel_readRule_112 (by decide) ?_
                  refine mv_goto (tgt := 117) d_TrustDeskModel_readRule_113 (by decide) ?_
                  refine tr_iastR (k := 8) I1020 R1025 (I1020.up h_o0) q1045 t1028 (by decide) (by decide) (fun lo hi h => by cases h; exact (by decide)) (Or.inl (by decide)) d_TrustDeskModel_readRule_117 (vp_in_iff.mpr (by have := R1025.1 15 _ _ rfl; have := R1025.1 16 _ _ rfl; have := R1025.1 19 _ _ rfl; omega)) (fun M1253 I1254 K1255 R1256 E1257 A1258 V1259 => ?_)
                  have z1260 := (V1259 15).trans z1029
                  have z1261 := (V1259 16).trans z1030
                  have z1262 := (V1259 17).trans z1031
                  have z1263 := (V1259 19).trans z1032
                  have z1264 := (V1259 22).trans z1033
                  have z1265 := (V1259 24).trans z1034
                  have z1266 := (A1258 5 (by decide) rfl 44).trans z1035
                  have z1267 := (A1258 6 (by decide) rfl 44).trans z1036
                  have z1268 := (A1258 7 (by decide) rfl ((880 + ra M0 o0 6 44).toNat)).trans z1037
                  have z1269 := (A1258 10 (by decide) rfl ((880 + ra M0 o0 6 44).toNat)).trans z1038
                  have E1270 : rE M0 M1253 o0 0 1 := E1039.same (fun k _ _ => V1259 k) (fun k h1 h2 => A1258 k (by omega) (by rcases (show k = 4 ∨ k = 5 by omega) with rfl | rfl <;> rfl))
                  have h1271 : (880 + ra M0 o0 6 44).toNat = v42.toNatClampNeg := by have := mz_nat9 (i := v42) (by have := R1025.1 15 _ _ rfl; have := R1025.1 16 _ _ rfl; have := R1025.1 19 _ _ rfl; omega); have := R1025.1 15 _ _ rfl; have := R1025.1 16 _ _ rfl; have := R1025.1 19 _ _ rfl; omega
                  have z1272 : ra M1253 o0 8 ((880 + ra M0 o0 6 44).toNat) = 3 := (E1257 _).trans (if_pos h1271)
                  have K1273 : rK M0 M1253 o0 ((880 + ra M0 o0 6 44).toNat) := K1040.st A1258 E1257 (by have := mz_nat9 (i := v42) (by have := R1025.1 15 _ _ rfl; have := R1025.1 16 _ _ rfl; have := R1025.1 19 _ _ rfl; omega); have := R1025.1 15 _ _ rfl; have := R1025.1 16 _ _ rfl; have := R1025.1 19 _ _ rfl; omega)
                  have K1274 : nN M1253 o0 := K1041.same (sA_a A1258 (by decide)) (sF_a V1259)
                  clear z1029 z1030 z1031 z1033 z1034 z1035 z1036 z1037 z1038
                  refine mv_aload_n d_TrustDeskModel_readRule_118 rfl rfl ?_
                  refine tr_getK (k := 8) (K1255 _ 13 8 _ q1045) d_TrustDeskModel_readRule_119 f_TrustDeskModel_29_13 ?_
                  refine mv_iload_n d_TrustDeskModel_readRule_122 rfl rfl ?_
                  refine tr_ialdR (o := o0) (k := 8) I1254 (K1255 _ 13 8 _ q1045) t1028 (by decide) d_TrustDeskModel_readRule_123 (vp_in_iff.mpr (by have := R1256.1 15 _ _ rfl; have := R1256.1 16 _ _ rfl; have := R1256.1 19 _ _ rfl; omega)) (fun v1275 e1276 => ?_)
                  have := R1256.a (k := 8) rfl (v42 : Int32).toNatClampNeg
                  have h1277 : (880 + ra M0 o0 6 44).toNat = v42.toNatClampNeg := by have := mz_nat9 (i := v42) (by have := R1256.1 15 _ _ rfl; have := R1256.1 16 _ _ rfl; have := R1256.1 19 _ _ rfl; omega); have := R1256.1 15 _ _ rfl; have := R1256.1 16 _ _ rfl; have := R1256.1 19 _ _ rfl; omega
                  have z1278 : v1275.toInt = ra M1253 o0 8 ((880 + ra M0 o0 6 44).toNat) := by rw [e1276, h1277]
                  have : v1275.toInt = _ := Eq.trans z1278 z1272
                  refine mv_iconst (v := (-1)) d_TrustDeskModel_readRule_124 (by decide) ?_
                  have := mz_hi v1275
                  refine mv_icmp_neZ (tgt := 133) (a := v1275.toInt) (b := (-1)) d_TrustDeskModel_readRule_125 (by decide) rfl (by decide) (fun b1279 => ?_) (fun b1279 => absurd b1279 (by omega))
                  refine mv_aload_n d_TrustDeskModel_readRule_133 rfl rfl ?_
                  obtain ⟨_, b1280, -⟩ := I1254.1 _ _ t1027
                  refine mv_callV (kc1 := 0) (ks1 := 0) (kc' := 0) (ks' := 0) (As := []) (st9 := [.ref o0]) d_TrustDeskModel_readRule_134 lV_TrustDeskModel_230 b1280 rfl (mj_enter (by decide) (Nat.le_of_ble_eq_true rfl) ?_) rfl (Nat.le_of_ble_eq_true rfl) (Nat.le_of_ble_eq_true rfl) (Nat.le_of_ble_eq_true rfl) (hst := rfl) (fun _ _ _ h => h)
                  refine mv_aload_n d_TrustDeskModel_isWell_0 rfl rfl ?_
                  refine tr_getK (k := 19) (K1255 _ 13 19 _ q1044) d_TrustDeskModel_isWell_1 f_TrustDeskModel_224_13 ?_
                  have := mz_hi v33
                  refine mv_if_neZ (tgt := 11) (a := v33.toInt) d_TrustDeskModel_isWell_4 (by decide) rfl (fun b1281 => absurd b1281 (by omega)) (fun b1281 => ?_)
                  refine mv_iconst (v := 1) d_TrustDeskModel_isWell_7 (by decide) ?_
                  refine mv_goto (tgt := 12) d_TrustDeskModel_isWell_8 (by decide) ?_
                  refine mv_iret d_TrustDeskModel_isWell_12 rfl (by decide) ?_
                  refine mv_if_eq_f (tgt := 144) d_TrustDeskModel_readRule_137 (by decide) (by decide) ?_
                  refine mv_aload_n d_TrustDeskModel_readRule_140 rfl rfl ?_
                  obtain ⟨_, b1288, -⟩ := I1254.1 _ _ t1027
                  refine mv_callV (kc' := 0) (ks' := 0) (As := []) (st9 := [.ref o0]) d_TrustDeskModel_readRule_141 lV_TrustDeskModel_237 b1288 rfl (tc_TrustDeskModel_next_x (d := (d + 23)) (x9 := x9) (o0 := o0) t1027 R1256 I1254.start) rfl (Nat.le_of_ble_eq_true rfl) (Nat.le_of_ble_eq_true rfl) (Nat.le_of_ble_eq_true rfl) (hst := rfl) (fun b1282r M1283 n1284 b1282 => ?_)
                  obtain ⟨T1285, J1286, rfl, R1289, f1290, f1291⟩ := b1282
                  have I1287 := I1254.call J1286 (tm_sub (by decide)) (Or.inl rfl)
                  have t1292 := J1286.up t1027
                  have z1293 := (rv_c I1254 J1286 (I1254.up h_o0) (k := 19) rfl).trans z1263
                  have z1294 := (rv_c I1254 J1286 (I1254.up h_o0) (k := 22) rfl).trans z1264
                  have z1295 := (rv_c I1254 J1286 (I1254.up h_o0) (k := 24) rfl).trans z1265
                  have z1296 := (ra_call I1254 J1286 (I1254.up h_o0) (k := 5) rfl rfl rfl 44).trans z1266
                  have z1297 := (ra_call I1254 J1286 (I1254.up h_o0) (k := 6) rfl rfl rfl 44).trans z1267
                  have z1298 := (ra_call I1254 J1286 (I1254.up h_o0) (k := 7) rfl rfl rfl ((880 + ra M0 o0 6 44).toNat)).trans z1268
                  have z1299 := (ra_call I1254 J1286 (I1254.up h_o0) (k := 10) rfl rfl rfl ((880 + ra M0 o0 6 44).toNat)).trans z1269
                  have z1300 := (ra_call I1254 J1286 (I1254.up h_o0) (k := 8) rfl rfl rfl ((880 + ra M0 o0 6 44).toNat)).trans z1272
                  have h1302 : rv M1253 o0 16 + 1 ≤ rv M1253 o0 15 := (by have := f1026.o (by omega); have := E1270.1.2.1 (by omega); omega)
                  have E1301 : rE M0 M1283 o0 0 2 := E1270.next f1290 f1291 (rv_c I1254 J1286 (I1254.up h_o0) (k := 19) rfl) (rE_ha I1254 J1286 (I1254.up h_o0) (by decide)) (e := 1) h1302 (by decide)
                  have K1303 : rK M0 M1283 o0 ((880 + ra M0 o0 6 44).toNat) := K1273.same (sA_c I1254 J1286 (I1254.up h_o0) (by decide))
                  have K1304 : nN M1283 o0 := K1274.same (sA_c I1254 J1286 (I1254.up h_o0) (by decide)) (sF_c I1254 J1286 (I1254.up h_o0) (by decide))
                  clear z1264 z1265 z1266 z1267 z1268 z1269 z1272
                  have q1305 := J1286.keep t1027 (by decide) (K1255 _ 13 6 _ q1042)
                  have t1306 := J1286.up t1043
                  have q1307 := J1286.keep t1027 (by decide) (K1255 _ 13 19 _ q1044)
                  have q1308 := J1286.keep t1027 (by decide) (K1255 _ 13 8 _ q1045)
                  have t1309 := J1286.up t1028
                  refine mv_aload_n d_TrustDeskModel_readRule_144 rfl rfl ?_
                  refine mv_ldcSw (id := 25) (tx := "if") d_TrustDeskModel_readRule_145 (List.mem_of_getElem? (i := 15) rfl) ?_
                  obtain ⟨_, b1316, -⟩ := I1287.1 _ _ t1292
                  refine mv_callV (kc' := 0) (ks' := 0) (As := [.ref 25]) (st9 := [.ref 25, .ref o0]) d_TrustDeskModel_readRule_148 lV_TrustDeskModel_329 b1316 rfl (tc_TrustDeskModel_wantWord_s1_25_x (d := (d + 19)) (x9 := x9) (o0 := o0) t1292 R1289 E1301.1 (E1301.s yS (by decide)) I1287.start) rfl (Nat.le_of_ble_eq_true rfl) (Nat.le_of_ble_eq_true rfl) (Nat.le_of_ble_eq_true rfl) (hst := rfl) (fun b1310r M1311 n1312 b1310 => ?_)
                  obtain ⟨T1313, J1314, rfl, R1317, f1318⟩ := b1310
                  have I1315 := I1287.call J1314 (tm_sub (by decide)) (Or.inl rfl)
                  have t1319 := J1314.up t1292
                  have := f1318.2.1
                  have f1320 := Im.i f1318.w.2
                  have f1321 := Im.i f1318.w2
                  have z1322 := (rv_c I1287 J1314 (I1287.up h_o0) (k := 22) rfl).trans z1294
                  have z1323 := (rv_c I1287 J1314 (I1287.up h_o0) (k := 24) rfl).trans z1295
                  have z1324 := (ra_call I1287 J1314 (I1287.up h_o0) (k := 5) rfl rfl rfl 44).trans z1296
                  have z1325 := (ra_call I1287 J1314 (I1287.up h_o0) (k := 6) rfl rfl rfl 44).trans z1297
                  have z1326 := (ra_call I1287 J1314 (I1287.up h_o0) (k := 7) rfl rfl rfl ((880 + ra M0 o0 6 44).toNat)).trans z1298
                  have z1327 := (ra_call I1287 J1314 (I1287.up h_o0) (k := 10) rfl rfl rfl ((880 + ra M0 o0 6 44).toNat)).trans z1299
                  have z1328 := (ra_call I1287 J1314 (I1287.up h_o0) (k := 8) rfl rfl rfl ((880 + ra M0 o0 6 44).toNat)).trans z1300
                  have E1329 : rE M0 M1311 o0 0 3 := E1301.trans f1318 (by decide) (yR.2 5 _ _ rfl 44).1 (by decide) (by decide)
                  have K1330 : rK M0 M1311 o0 ((880 + ra M0 o0 6 44).toNat) := K1303.same (sA_c I1287 J1314 (I1287.up h_o0) (by decide))
                  have K1331 : nN M1311 o0 := K1304.same (sA_c I1287 J1314 (I1287.up h_o0) (by decide)) (sF_c I1287 J1314 (I1287.up h_o0) (by decide))
                  clear z1294 z1295 z1296 z1297 z1298 z1299 z1300
                  have q1332 := J1314.keep t1292 (by decide) q1305
                  have t1333 := J1314.up t1306
                  have q1334 := J1314.keep t1292 (by decide) q1308
                  have t1335 := J1314.up t1309
                  refine mv_aload_n d_TrustDeskModel_readRule_151 rfl rfl ?_
                  obtain ⟨a1337, q1336, t_a1337⟩ := tm_atR I1315 t1319 (k := 11) rfl
                  refine tr_getK q1336 d_TrustDeskModel_readRule_152 f_TrustDeskModel_38_13 ?_
                  refine mv_iload_n d_TrustDeskModel_readRule_155 rfl rfl ?_
                  refine mv_aload_n d_TrustDeskModel_readRule_156 rfl rfl ?_
                  obtain ⟨a1339, q1338, t_a1339⟩ := tm_atR I1315 t1319 (k := 5) rfl
                  refine tr_getK q1338 d_TrustDeskModel_readRule_157 f_TrustDeskModel_20_13 ?_
                  refine mv_bipush (v := 44) d_TrustDeskModel_readRule_160 (by decide) ?_
                  refine tr_ialdR (o := o0) (k := 5) I1315 q1338 t_a1339 (by decide) d_TrustDeskModel_readRule_162 (by unfold vp_in; decide) (fun v1340 e1341 => ?_)
                  have := R1317.a (k := 5) rfl (44 : Int32).toNatClampNeg
                  have : v1340.toInt = ra M1311 o0 5 44 := e1341
                  have : v1340.toInt = _ := Eq.trans e1341 z1324
                  refine tr_iastR (k := 11) I1315 R1317 (I1315.up h_o0) q1336 t_a1337 (by decide) (by decide) (fun lo hi h => by cases h; have := R1317.1 15 _ _ rfl; have := R1317.1 16 _ _ rfl; have := R1317.1 19 _ _ rfl; exact ⟨by show (0 : Int) ≤ v1340.toInt; omega, by show v1340.toInt ≤ (400 : Int); omega⟩) (Or.inl (by decide)) d_TrustDeskModel_readRule_163 (vp_in_iff.mpr (by have := R1317.1 15 _ _ rfl; have := R1317.1 16 _ _ rfl; have := R1317.1 19 _ _ rfl; omega)) (fun M1342 I1343 K1344 R1345 E1346 A1347 V1348 => ?_)
                  have z1349 := (V1348 15)
                  have z1350 := (V1348 16)
                  have z1351 := (V1348 17)
                  have z1352 := (V1348 19)
                  have z1353 := (V1348 22).trans z1322
                  have z1354 := (V1348 24).trans z1323
                  have z1355 := (A1347 5 (by decide) rfl 44).trans z1324
                  have z1356 := (A1347 6 (by decide) rfl 44).trans z1325
                  have z1357 := (A1347 7 (by decide) rfl ((880 + ra M0 o0 6 44).toNat)).trans z1326
                  have z1358 := (A1347 10 (by decide) rfl ((880 + ra M0 o0 6 44).toNat)).trans z1327
                  have z1359 := (A1347 8 (by decide) rfl ((880 + ra M0 o0 6 44).toNat)).trans z1328
                  have E1360 : rE M0 M1342 o0 0 3 := E1329.same (fun k _ _ => V1348 k) (fun k h1 h2 => A1347 k (by omega) (by rcases (show k = 4 ∨ k = 5 by omega) with rfl | rfl <;> rfl))
                  have h1361 : (880 + ra M0 o0 6 44).toNat = v42.toNatClampNeg := by have := mz_nat9 (i := v42) (by have := R1317.1 15 _ _ rfl; have := R1317.1 16 _ _ rfl; have := R1317.1 19 _ _ rfl; omega); have := R1317.1 15 _ _ rfl; have := R1317.1 16 _ _ rfl; have := R1317.1 19 _ _ rfl; omega
                  have z1362 : ra M1342 o0 11 ((880 + ra M0 o0 6 44).toNat) = v1340.toInt := (E1346 _).trans (if_pos h1361)
                  have K1363 : rK M0 M1342 o0 ((880 + ra M0 o0 6 44).toNat) := K1330.st A1347 E1346 (by have := mz_nat9 (i := v42) (by have := R1317.1 15 _ _ rfl; have := R1317.1 16 _ _ rfl; have := R1317.1 19 _ _ rfl; omega); have := R1317.1 15 _ _ rfl; have := R1317.1 16 _ _ rfl; have := R1317.1 19 _ _ rfl; omega)
                  have K1364 : nN M1342 o0 := K1331.same (sA_a A1347 (by decide)) (sF_a V1348)
                  have F1365 : rE M1342 M1342 o0 0 0 := rE.rf E1360.1
                  have : ra M1342 o0 5 44 = v1340.toInt := by omega
                  clear z1322 z1323 z1324 z1325 z1326 z1327 z1328
                  refine mv_aload_n d_TrustDeskModel_readRule_164 rfl rfl ?_
                  obtain ⟨_, b1372, -⟩ := I1343.1 _ _ t1319
                  refine mv_callV (kc' := 0) (ks' := 0) (As := []) (st9 := [.ref o0]) d_TrustDeskModel_readRule_165 lV_TrustDeskModel_302 b1372 rfl (tc_TrustDeskModel_cond_q5_x (d := d) (x9 := x9) (o0 := o0) t1319 R1345 E1360.1 (E1360.s yS (by decide)) (Classical.byCases (fun w9 : rv M1342 o0 19 = 0 => by have u91 : rv M1311 o0 19 = 0 := (by omega); have := f1320.o u91; have := f1321.o u91; have u92 : rv M36 o0 19 = 0 := (by omega); have := f51.o u92; have := f52.o u92; omega) (fun w9 : ¬ rv M1342 o0 19 = 0 => by omega)) I1343.start) rfl (Nat.le_of_ble_eq_true rfl) (Nat.le_of_ble_eq_true rfl) (Nat.le_of_ble_eq_true rfl) (hst := rfl) (fun b1366r M1367 n1368 b1366 => ?_)
                  obtain ⟨T1369, J1370, rfl, R1373, f1374, f1375⟩ := b1366
                  have I1371 := I1343.call J1370 (tm_sub (by decide)) (Or.inl rfl)
                  have t1376 := J1370.up t1319
                  have := f1374.2.1
                  have f1377 := Im.i f1374.w.2
                  have f1378 := Im.i f1374.w2
                  replace f1375 := Im.i f1375
                  have z1379 := (rv_c I1343 J1370 (I1343.up h_o0) (k := 24) rfl).trans z1354
                  have z1380 := (ra_call I1343 J1370 (I1343.up h_o0) (k := 6) rfl rfl rfl 44).trans z1356
                  have z1381 := (ra_call I1343 J1370 (I1343.up h_o0) (k := 7) rfl rfl rfl ((880 + ra M0 o0 6 44).toNat)).trans z1357
                  have z1382 := (ra_call I1343 J1370 (I1343.up h_o0) (k := 10) rfl rfl rfl ((880 + ra M0 o0 6 44).toNat)).trans z1358
                  have z1383 := (ra_call I1343 J1370 (I1343.up h_o0) (k := 8) rfl rfl rfl ((880 + ra M0 o0 6 44).toNat)).trans z1359
                  have z1384 := (ra_call I1343 J1370 (I1343.up h_o0) (k := 11) rfl rfl rfl ((880 + ra M0 o0 6 44).toNat)).trans z1362
                  have E1385 : rE M0 M1367 o0 1 3 := E1360.trans f1374 (by decide) (yR.2 5 _ _ rfl 44).1 (by decide) (by decide)
                  have K1386 : rK M0 M1367 o0 ((880 + ra M0 o0 6 44).toNat) := K1363.same (sA_c I1343 J1370 (I1343.up h_o0) (by decide))
                  have K1387 : nN M1367 o0 := K1364.same (sA_c I1343 J1370 (I1343.up h_o0) (by decide)) (sF_c I1343 J1370 (I1343.up h_o0) (by decide))
                  have F1388 : rE M1342 M1367 o0 1 0 := F1365.trans f1374 (by decide) (R1345.2 5 _ _ rfl 44).1 (by decide) (by decide)
                  clear z1354 z1356 z1357 z1358 z1359 z1362
                  have q1389 := J1370.keep t1319 (by decide) (K1344 _ 13 6 _ q1332)
                  have t1390 := J1370.up t1333
                  have q1391 := J1370.keep t1319 (by decide) (K1344 _ 13 8 _ q1334)
                  have t1392 := J1370.up t1335
                  have q1393 := J1370.keep t1319 (by decide) (K1344 _ 13 11 _ q1336)
                  have t1394 := J1370.up t_a1337
                  have q1395 := J1370.keep t1319 (by decide) (K1344 _ 13 5 _ q1338)
                  have t1396 := J1370.up t_a1339
                  refine mv_goto (tgt := 251) d_TrustDeskModel_readRule_168 (by decide) ?_
                  refine mv_aload_n d_TrustDeskModel_readRule_251 rfl rfl ?_
                  refine mv_bipush (v := 59) d_TrustDeskModel_readRule_252 (by decide) ?_
                  obtain ⟨_, b1403, -⟩ := I1371.1 _ _ t1376
                  have : (59 : Int32).toInt = 59 := by decide
                  refine mv_callV (kc' := 0) (ks' := 0) (As := [.int 59]) (st9 := [.int 59, .ref o0]) d_TrustDeskModel_readRule_254 lV_TrustDeskModel_291 b1403 rfl (tc_TrustDeskModel_wantSign_x (d := (d + 22)) (x9 := x9) (o0 := o0) (x1 := 59) t1376 R1373 E1385.1 (E1385.s yS (by decide)) I1371.start) rfl (Nat.le_of_ble_eq_true rfl) (Nat.le_of_ble_eq_true rfl) (Nat.le_of_ble_eq_true rfl) (hst := rfl) (fun b1397r M1398 n1399 b1397 => ?_)
                  obtain ⟨T1400, J1401, rfl, R1404, f1405⟩ := b1397
                  have I1402 := I1371.call J1401 (tm_sub (by decide)) (Or.inl rfl)
                  have t1406 := J1401.up t1376
                  have := f1405.2.1
                  have f1407 := Im.i f1405.w.2
                  have f1408 := Im.i f1405.w2
                  have z1409 := (rv_c I1371 J1401 (I1371.up h_o0) (k := 22) rfl)
                  have z1410 := (rv_c I1371 J1401 (I1371.up h_o0) (k := 24) rfl).trans z1379
                  have z1411 := (ra_call I1371 J1401 (I1371.up h_o0) (k := 5) rfl rfl rfl 44)
                  have z1412 := (ra_call I1371 J1401 (I1371.up h_o0) (k := 6) rfl rfl rfl 44).trans z1380
                  have z1413 := (ra_call I1371 J1401 (I1371.up h_o0) (k := 7) rfl rfl rfl ((880 + ra M0 o0 6 44).toNat)).trans z1381
                  have z1414 := (ra_call I1371 J1401 (I1371.up h_o0) (k := 10) rfl rfl rfl ((880 + ra M0 o0 6 44).toNat)).trans z1382
                  have z1415 := (ra_call I1371 J1401 (I1371.up h_o0) (k := 8) rfl rfl rfl ((880 + ra M0 o0 6 44).toNat)).trans z1383
                  have z1416 := (ra_call I1371 J1401 (I1371.up h_o0) (k := 11) rfl rfl rfl ((880 + ra M0 o0 6 44).toNat)).trans z1384
                  have E1417 : rE M0 M1398 o0 1 4 := E1385.trans f1405 (by decide) (yR.2 5 _ _ rfl 44).1 (by decide) (by decide)
                  have K1418 : rK M0 M1398 o0 ((880 + ra M0 o0 6 44).toNat) := K1386.same (sA_c I1371 J1401 (I1371.up h_o0) (by decide))
                  have K1419 : nN M1398 o0 := K1387.same (sA_c I1371 J1401 (I1371.up h_o0) (by decide)) (sF_c I1371 J1401 (I1371.up h_o0) (by decide))
                  have F1420 : rE M1342 M1398 o0 1 1 := F1388.trans f1405 (by decide) (R1345.2 5 _ _ rfl 44).1 (by decide) (by decide)
                  clear z1379 z1380 z1381 z1382 z1383 z1384
                  have q1421 := J1401.keep t1376 (by decide) q1389
                  have t1422 := J1401.up t1390
                  have q1423 := J1401.keep t1376 (by decide) q1391
                  have t1424 := J1401.up t1392
                  have q1425 := J1401.keep t1376 (by decide) q1393
                  have t1426 := J1401.up t1394
                  have q1427 := J1401.keep t1376 (by decide) q1395
                  have t1428 := J1401.up t1396
                  refine mv_aload_n d_TrustDeskModel_readRule_257 rfl rfl ?_
                  obtain ⟨a1430, q1429, t_a1430⟩ := tm_atR I1402 t1406 (k := 12) rfl
                  refine tr_getK q1429 d_TrustDeskModel_readRule_258 f_TrustDeskModel_41_13 ?_
                  refine mv_iload_n d_TrustDeskModel_readRule_261 rfl rfl ?_
                  refine mv_aload_n d_TrustDeskModel_readRule_262 rfl rfl ?_
                  refine tr_getK (k := 5) q1427 d_TrustDeskModel_readRule_263 f_TrustDeskModel_20_13 ?_
                  refine mv_bipush (v := 44) d_TrustDeskModel_readRule_266 (by decide) ?_
                  refine tr_ialdR (o := o0) (k := 5) I1402 q1427 t1428 (by decide) d_TrustDeskModel_readRule_268 (by unfold vp_in; decide) (fun v1431 e1432 => ?_)
                  have := R1404.a (k := 5) rfl (44 : Int32).toNatClampNeg
                  have : v1431.toInt = ra M1398 o0 5 44 := e1432
                  have : v1431.toInt = _ := Eq.trans e1432 z1411
                  refine tr_iastR (k := 12) I1402 R1404 (I1402.up h_o0) q1429 t_a1430 (by decide) (by decide) (fun lo hi h => by cases h; have := R1404.1 15 _ _ rfl; have := R1404.1 16 _ _ rfl; have := R1404.1 19 _ _ rfl; exact ⟨by show (0 : Int) ≤ v1431.toInt; omega, by show v1431.toInt ≤ (400 : Int); omega⟩) (Or.inl (by decide)) d_TrustDeskModel_readRule_269 (vp_in_iff.mpr (by have := R1404.1 15 _ _ rfl; have := R1404.1 16 _ _ rfl; have := R1404.1 19 _ _ rfl; omega)) (fun M1433 I1434 K1435 R1436 E1437 A1438 V1439 => ?_)
                  have z1440 := (V1439 15)
                  have z1441 := (V1439 16)
                  have z1442 := (V1439 17)
                  have z1443 := (V1439 19)
                  have z1444 := (V1439 22).trans z1409
                  have z1445 := (V1439 24).trans z1410
                  have z1446 := (A1438 5 (by decide) rfl 44).trans z1411
                  have z1447 := (A1438 6 (by decide) rfl 44).trans z1412
                  have z1448 := (A1438 7 (by decide) rfl ((880 + ra M0 o0 6 44).toNat)).trans z1413
                  have z1449 := (A1438 10 (by decide) rfl ((880 + ra M0 o0 6 44).toNat)).trans z1414
                  have z1450 := (A1438 8 (by decide) rfl ((880 + ra M0 o0 6 44).toNat)).trans z1415
                  have z1451 := (A1438 11 (by decide) rfl ((880 + ra M0 o0 6 44).toNat)).trans z1416
                  have E1452 : rE M0 M1433 o0 1 4 := E1417.same (fun k _ _ => V1439 k) (fun k h1 h2 => A1438 k (by omega) (by rcases (show k = 4 ∨ k = 5 by omega) with rfl | rfl <;> rfl))
                  have h1453 : (880 + ra M0 o0 6 44).toNat = v42.toNatClampNeg := by have := mz_nat9 (i := v42) (by have := R1404.1 15 _ _ rfl; have := R1404.1 16 _ _ rfl; have := R1404.1 19 _ _ rfl; omega); have := R1404.1 15 _ _ rfl; have := R1404.1 16 _ _ rfl; have := R1404.1 19 _ _ rfl; omega
                  have z1454 : ra M1433 o0 12 ((880 + ra M0 o0 6 44).toNat) = v1431.toInt := (E1437 _).trans (if_pos h1453)
                  have K1455 : rK M0 M1433 o0 ((880 + ra M0 o0 6 44).toNat) := K1418.st A1438 E1437 (by have := mz_nat9 (i := v42) (by have := R1404.1 15 _ _ rfl; have := R1404.1 16 _ _ rfl; have := R1404.1 19 _ _ rfl; omega); have := R1404.1 15 _ _ rfl; have := R1404.1 16 _ _ rfl; have := R1404.1 19 _ _ rfl; omega)
                  have K1456 : nN M1433 o0 := K1419.same (sA_a A1438 (by decide)) (sF_a V1439)
                  have F1457 : rE M1342 M1433 o0 1 1 := F1420.same (fun k _ _ => V1439 k) (fun k h1 h2 => A1438 k (by omega) (by rcases (show k = 4 ∨ k = 5 by omega) with rfl | rfl <;> rfl))
                  clear z1409 z1410 z1411 z1412 z1413 z1414 z1415 z1416
                  exact mv_vret d_TrustDeskModel_readRule_270 rfl ⟨_, I1434, rfl, R1436, (rW.of E1452.1 (E1452.s yS (by decide)) (fun w9 => by have u91 : rv M1398 o0 19 = 0 := (by omega); have := f1407.o u91; have := f1408.o u91; have u92 : rv M1367 o0 19 = 0 := (by omega); have := f1377.o u92; have := f1378.o u92; have := f1375.o u92; have u93 : rv M1311 o0 19 = 0 := (by omega); have := f1320.o u93; have := f1321.o u93; have u94 : rv M36 o0 19 = 0 := (by omega); have := f51.o u94; have := f52.o u94; exact rG.step yG yR E1452 w9 K1455 (by have := yR.2 6 _ _ rfl 44; omega) (by have := R1436.1 15 _ _ rfl; have := R1436.1 16 _ _ rfl; have := R1436.1 19 _ _ rfl; omega) (by have := R1436.1 15 _ _ rfl; have := R1436.1 16 _ _ rfl; have := R1436.1 19 _ _ rfl; omega) (fun _ => rowN.of E1360 F1457 w9 (by decide) (by decide) (yR.2 5 _ _ rfl 44).1 (by have := R1436.1 15 _ _ rfl; have := R1436.1 16 _ _ rfl; have := R1436.1 19 _ _ rfl; omega) (by have := R1436.1 15 _ _ rfl; have := R1436.1 16 _ _ rfl; have := R1436.1 19 _ _ rfl; omega) (by have := R1436.1 15 _ _ rfl; have := R1436.1 16 _ _ rfl; have := R1436.1 19 _ _ rfl; omega)) (fun h9 => (by have := R1436.1 15 _ _ rfl; have := R1436.1 16 _ _ rfl; have := R1436.1 19 _ _ rfl; omega)) (by have := R1436.1 15 _ _ rfl; have := R1436.1 16 _ _ rfl; have := R1436.1 19 _ _ rfl; omega) K1456)), (rO.of E1452 K1455 (by have := yR.2 6 _ _ rfl 44; omega)), ⟨E1452.2.1, fun w9 => by skip; have := E1452.w2 w9; omega⟩, (fun w9 => by have u91 : rv M1398 o0 19 = 0 := (by omega); have := f1407.o u91; have := f1408.o u91; have u92 : rv M1367 o0 19 = 0 := (by omega); have := f1377.o u92; have := f1378.o u92; have := f1375.o u92; have u93 : rv M1311 o0 19 = 0 := (by omega); have := f1320.o u93; have := f1321.o u93; have u94 : rv M36 o0 19 = 0 := (by omega); have := f51.o u94; have := f52.o u94; omega)⟩
              · refine mv_iconst (v := 2) d_TrustDeskModel_readRule_98 (by decide) ?_
                refine mv_goto (tgt := 117) d_TrustDeskModel_readRule_99 (by decide) ?_
                refine tr_iastR (k := 8) I988 R993 (I988.up h_o0) q1013 t996 (by decide) (by decide) (fun lo hi h => by cases h; exact (by decide)) (Or.inl (by decide)) d_TrustDeskModel_readRule_117 (vp_in_iff.mpr (by have := R993.1 15 _ _ rfl; have := R993.1 16 _ _ rfl; have := R993.1 19 _ _ rfl; omega)) (fun M1458 I1459 K1460 R1461 E1462 A1463 V1464 => ?_)
                have z1465 := (V1464 15).trans z997
                have z1466 := (V1464 16).trans z998
                have z1467 := (V1464 17).trans z999
                have z1468 := (V1464 19).trans z1000
                have z1469 := (V1464 22).trans z1001
                have z1470 := (V1464 24).trans z1002
                have z1471 := (A1463 5 (by decide) rfl 44).trans z1003
                have z1472 := (A1463 6 (by decide) rfl 44).trans z1004
                have z1473 := (A1463 7 (by decide) rfl ((880 + ra M0 o0 6 44).toNat)).trans z1005
                have z1474 := (A1463 10 (by decide) rfl ((880 + ra M0 o0 6 44).toNat)).trans z1006
                have E1475 : rE M0 M1458 o0 0 1 := E1007.same (fun k _ _ => V1464 k) (fun k h1 h2 => A1463 k (by omega) (by rcases (show k = 4 ∨ k = 5 by omega) with rfl | rfl <;> rfl))
                have h1476 : (880 + ra M0 o0 6 44).toNat = v42.toNatClampNeg := by have := mz_nat9 (i := v42) (by have := R993.1 15 _ _ rfl; have := R993.1 16 _ _ rfl; have := R993.1 19 _ _ rfl; omega); have := R993.1 15 _ _ rfl; have := R993.1 16 _ _ rfl; have := R993.1 19 _ _ rfl; omega
                have z1477 : ra M1458 o0 8 ((880 + ra M0 o0 6 44).toNat) = 2 := (E1462 _).trans (if_pos h1476)
                have K1478 : rK M0 M1458 o0 ((880 + ra M0 o0 6 44).toNat) := K1008.st A1463 E1462 (by have := mz_nat9 (i := v42) (by have := R993.1 15 _ _ rfl; have := R993.1 16 _ _ rfl; have := R993.1 19 _ _ rfl; omega); have := R993.1 15 _ _ rfl; have := R993.1 16 _ _ rfl; have := R993.1 19 _ _ rfl; omega)
                have K1479 : nN M1458 o0 := K1009.same (sA_a A1463 (by decide)) (sF_a V1464)
                clear z997 z998 z999 z1001 z1002 z1003 z1004 z1005 z1006
                refine mv_aload_n d_TrustDeskModel_readRule_118 rfl rfl ?_
                refine tr_getK (k := 8) (K1460 _ 13 8 _ q1013) d_TrustDeskModel_readRule_119 f_TrustDeskModel_29_13 ?_
                refine mv_iload_n d_TrustDeskModel_readRule_122 rfl rfl ?_
                refine tr_ialdR (o := o0) (k := 8) I1459 (K1460 _ 13 8 _ q1013) t996 (by decide) d_TrustDeskModel_readRule_123 (vp_in_iff.mpr (by have := R1461.1 15 _ _ rfl; have := R1461.1 16 _ _ rfl; have := R1461.1 19 _ _ rfl; omega)) (fun v1480 e1481 => ?_)
                have := R1461.a (k := 8) rfl (v42 : Int32).toNatClampNeg
                have h1482 : (880 + ra M0 o0 6 44).toNat = v42.toNatClampNeg := by have := mz_nat9 (i := v42) (by have := R1461.1 15 _ _ rfl; have := R1461.1 16 _ _ rfl; have := R1461.1 19 _ _ rfl; omega); have := R1461.1 15 _ _ rfl; have := R1461.1 16 _ _ rfl; have := R1461.1 19 _ _ rfl; omega
                have z1483 : v1480.toInt = ra M1458 o0 8 ((880 + ra M0 o0 6 44).toNat) := by rw [e1481, h1482]
                have : v1480.toInt = _ := Eq.trans z1483 z1477
                refine mv_iconst (v := (-1)) d_TrustDeskModel_readRule_124 (by decide) ?_
                have := mz_hi v1480
                refine mv_icmp_neZ (tgt := 133) (a := v1480.toInt) (b := (-1)) d_TrustDeskModel_readRule_125 (by decide) rfl (by decide) (fun b1484 => ?_) (fun b1484 => absurd b1484 (by omega))
                refine mv_aload_n d_TrustDeskModel_readRule_133 rfl rfl ?_
                obtain ⟨_, b1485, -⟩ := I1459.1 _ _ t995
                refine mv_callV (kc1 := 0) (ks1 := 0) (kc' := 0) (ks' := 0) (As := []) (st9 := [.ref o0]) d_TrustDeskModel_readRule_134 lV_TrustDeskModel_230 b1485 rfl (mj_enter (by decide) (Nat.le_of_ble_eq_true rfl) ?_) rfl (Nat.le_of_ble_eq_true rfl) (Nat.le_of_ble_eq_true rfl) (Nat.le_of_ble_eq_true rfl) (hst := rfl) (fun _ _ _ h => h)
                refine mv_aload_n d_TrustDeskModel_isWell_0 rfl rfl ?_
                refine tr_getK (k := 19) (K1460 _ 13 19 _ q1012) d_TrustDeskModel_isWell_1 f_TrustDeskModel_224_13 ?_
                have := mz_hi v33
                refine mv_if_neZ (tgt := 11) (a := v33.toInt) d_TrustDeskModel_isWell_4 (by decide) rfl (fun b1486 => absurd b1486 (by omega)) (fun b1486 => ?_)
                refine mv_iconst (v := 1) d_TrustDeskModel_isWell_7 (by decide) ?_
                refine mv_goto (tgt := 12) d_TrustDeskModel_isWell_8 (by decide) ?_
                refine mv_iret d_TrustDeskModel_isWell_12 rfl (by decide) ?_
                refine mv_if_eq_f (tgt := 144) d_TrustDeskModel_readRule_137 (by decide) (by decide) ?_
                refine mv_aload_n d_TrustDeskModel_readRule_140 rfl rfl ?_
                obtain ⟨_, b1493, -⟩ := I1459.1 _ _ t995
                refine mv_callV (kc' := 0) (ks' := 0) (As := []) (st9 := [.ref o0]) d_TrustDeskModel_readRule_141 lV_TrustDeskModel_237 b1493 rfl (tc_TrustDeskModel_next_x (d := (d + 23)) (x9 := x9) (o0 := o0) t995 R1461 I1459.start) rfl (Nat.le_of_ble_eq_true rfl) (Nat.le_of_ble_eq_true rfl) (Nat.le_of_ble_eq_true rfl) (hst := rfl) (fun b1487r M1488 n1489 b1487 => ?_)
                obtain ⟨T1490, J1491, rfl, R1494, f1495, f1496⟩ := b1487
                have I1492 := I1459.call J1491 (tm_sub (by decide)) (Or.inl rfl)
                have t1497 := J1491.up t995
                have z1498 := (rv_c I1459 J1491 (I1459.up h_o0) (k := 19) rfl).trans z1468
                have z1499 := (rv_c I1459 J1491 (I1459.up h_o0) (k := 22) rfl).trans z1469
                have z1500 := (rv_c I1459 J1491 (I1459.up h_o0) (k := 24) rfl).trans z1470
                have z1501 := (ra_call I1459 J1491 (I1459.up h_o0) (k := 5) rfl rfl rfl 44).trans z1471
                have z1502 := (ra_call I1459 J1491 (I1459.up h_o0) (k := 6) rfl rfl rfl 44).trans z1472
                have z1503 := (ra_call I1459 J1491 (I1459.up h_o0) (k := 7) rfl rfl rfl ((880 + ra M0 o0 6 44).toNat)).trans z1473
                have z1504 := (ra_call I1459 J1491 (I1459.up h_o0) (k := 10) rfl rfl rfl ((880 + ra M0 o0 6 44).toNat)).trans z1474
                have z1505 := (ra_call I1459 J1491 (I1459.up h_o0) (k := 8) rfl rfl rfl ((880 + ra M0 o0 6 44).toNat)).trans z1477
                have h1507 : rv M1458 o0 16 + 1 ≤ rv M1458 o0 15 := (by have := f994.o (by omega); have := E1475.1.2.1 (by omega); omega)
                have E1506 : rE M0 M1488 o0 0 2 := E1475.next f1495 f1496 (rv_c I1459 J1491 (I1459.up h_o0) (k := 19) rfl) (rE_ha I1459 J1491 (I1459.up h_o0) (by decide)) (e := 1) h1507 (by decide)
                have K1508 : rK M0 M1488 o0 ((880 + ra M0 o0 6 44).toNat) := K1478.same (sA_c I1459 J1491 (I1459.up h_o0) (by decide))
                have K1509 : nN M1488 o0 := K1479.same (sA_c I1459 J1491 (I1459.up h_o0) (by decide)) (sF_c I1459 J1491 (I1459.up h_o0) (by decide))
                clear z1469 z1470 z1471 z1472 z1473 z1474 z1477
                have q1510 := J1491.keep t995 (by decide) (K1460 _ 13 6 _ q1010)
                have t1511 := J1491.up t1011
                have q1512 := J1491.keep t995 (by decide) (K1460 _ 13 19 _ q1012)
                have q1513 := J1491.keep t995 (by decide) (K1460 _ 13 8 _ q1013)
                have t1514 := J1491.up t996
                refine mv_aload_n d_TrustDeskModel_readRule_144 rfl rfl ?_
                refine mv_ldcSw (id := 25) (tx := "if") d_TrustDeskModel_readRule_145 (List.mem_of_getElem? (i := 15) rfl) ?_
                obtain ⟨_, b1521, -⟩ := I1492.1 _ _ t1497
                refine mv_callV (kc' := 0) (ks' := 0) (As := [.ref 25]) (st9 := [.ref 25, .ref o0]) d_TrustDeskModel_readRule_148 lV_TrustDeskModel_329 b1521 rfl (tc_TrustDeskModel_wantWord_s1_25_x (d := (d + 19)) (x9 := x9) (o0 := o0) t1497 R1494 E1506.1 (E1506.s yS (by decide)) I1492.start) rfl (Nat.le_of_ble_eq_true rfl) (Nat.le_of_ble_eq_true rfl) (Nat.le_of_ble_eq_true rfl) (hst := rfl) (fun b1515r M1516 n1517 b1515 => ?_)
                obtain ⟨T1518, J1519, rfl, R1522, f1523⟩ := b1515
                have I1520 := I1492.call J1519 (tm_sub (by decide)) (Or.inl rfl)
                have t1524 := J1519.up t1497
                have := f1523.2.1
                have f1525 := Im.i f1523.w.2
                have f1526 := Im.i f1523.w2
                have z1527 := (rv_c I1492 J1519 (I1492.up h_o0) (k := 22) rfl).trans z1499
                have z1528 := (rv_c I1492 J1519 (I1492.up h_o0) (k := 24) rfl).trans z1500
                have z1529 := (ra_call I1492 J1519 (I1492.up h_o0) (k := 5) rfl rfl rfl 44).trans z1501
                have z1530 := (ra_call I1492 J1519 (I1492.up h_o0) (k := 6) rfl rfl rfl 44).trans z1502
                have z1531 := (ra_call I1492 J1519 (I1492.up h_o0) (k := 7) rfl rfl rfl ((880 + ra M0 o0 6 44).toNat)).trans z1503
                have z1532 := (ra_call I1492 J1519 (I1492.up h_o0) (k := 10) rfl rfl rfl ((880 + ra M0 o0 6 44).toNat)).trans z1504
                have z1533 := (ra_call I1492 J1519 (I1492.up h_o0) (k := 8) rfl rfl rfl ((880 + ra M0 o0 6 44).toNat)).trans z1505
                have E1534 : rE M0 M1516 o0 0 3 := E1506.trans f1523 (by decide) (yR.2 5 _ _ rfl 44).1 (by decide) (by decide)
                have K1535 : rK M0 M1516 o0 ((880 + ra M0 o0 6 44).toNat) := K1508.same (sA_c I1492 J1519 (I1492.up h_o0) (by decide))
                have K1536 : nN M1516 o0 := K1509.same (sA_c I1492 J1519 (I1492.up h_o0) (by decide)) (sF_c I1492 J1519 (I1492.up h_o0) (by decide))
                clear z1499 z1500 z1501 z1502 z1503 z1504 z1505
                have q1537 := J1519.keep t1497 (by decide) q1510
                have t1538 := J1519.up t1511
                have q1539 := J1519.keep t1497 (by decide) q1513
                have t1540 := J1519.up t1514
                refine mv_aload_n d_TrustDeskModel_readRule_151 rfl rfl ?_
                obtain ⟨a1542, q1541, t_a1542⟩ := tm_atR I1520 t1524 (k := 11) rfl
                refine tr_getK q1541 d_TrustDeskModel_readRule_152 f_TrustDeskModel_38_13 ?_
                refine mv_iload_n d_TrustDeskModel_readRule_155 rfl rfl ?_
                refine mv_aload_n d_TrustDeskModel_readRule_156 rfl rfl ?_
                obtain ⟨a1544, q1543, t_a1544⟩ := tm_atR I1520 t1524 (k := 5) rfl
                refine tr_getK q1543 d_TrustDeskModel_readRule_157 f_TrustDeskModel_20_13 ?_
                refine mv_bipush (v := 44) d_TrustDeskModel_readRule_160 (by decide) ?_
                refine tr_ialdR (o := o0) (k := 5) I1520 q1543 t_a1544 (by decide) d_TrustDeskModel_readRule_162 (by unfold vp_in; decide) (fun v1545 e1546 => ?_)
                have := R1522.a (k := 5) rfl (44 : Int32).toNatClampNeg
                have : v1545.toInt = ra M1516 o0 5 44 := e1546
                have : v1545.toInt = _ := Eq.trans e1546 z1529
                refine tr_iastR (k := 11) I1520 R1522 (I1520.up h_o0) q1541 t_a1542 (by decide) (by decide) (fun lo hi h => by cases h; have := R1522.1 15 _ _ rfl; have := R1522.1 16 _ _ rfl; have := R1522.1 19 _ _ rfl; exact ⟨by show (0 : Int) ≤ v1545.toInt; omega, by show v1545.toInt ≤ (400 : Int); omega⟩) (Or.inl (by decide)) d_TrustDeskModel_readRule_163 (vp_in_iff.mpr (by have := R1522.1 15 _ _ rfl; have := R1522.1 16 _ _ rfl; have := R1522.1 19 _ _ rfl; omega)) (fun M1547 I1548 K1549 R1550 E1551 A1552 V1553 => ?_)
                have z1554 := (V1553 15)
                have z1555 := (V1553 16)
                have z1556 := (V1553 17)
                have z1557 := (V1553 19)
                have z1558 := (V1553 22).trans z1527
                have z1559 := (V1553 24).trans z1528
                have z1560 := (A1552 5 (by decide) rfl 44).trans z1529
                have z1561 := (A1552 6 (by decide) rfl 44).trans z1530
                have z1562 := (A1552 7 (by decide) rfl ((880 + ra M0 o0 6 44).toNat)).trans z1531
                have z1563 := (A1552 10 (by decide) rfl ((880 + ra M0 o0 6 44).toNat)).trans z1532
                have z1564 := (A1552 8 (by decide) rfl ((880 + ra M0 o0 6 44).toNat)).trans z1533
                have E1565 : rE M0 M1547 o0 0 3 := E1534.same (fun k _ _ => V1553 k) (fun k h1 h2 => A1552 k (by omega) (by rcases (show k = 4 ∨ k = 5 by omega) with rfl | rfl <;> rfl))
                have h1566 : (880 + ra M0 o0 6 44).toNat = v42.toNatClampNeg := by have := mz_nat9 (i := v42) (by have := R1522.1 15 _ _ rfl; have := R1522.1 16 _ _ rfl; have := R1522.1 19 _ _ rfl; omega); have := R1522.1 15 _ _ rfl; have := R1522.1 16 _ _ rfl; have := R1522.1 19 _ _ rfl; omega
                have z1567 : ra M1547 o0 11 ((880 + ra M0 o0 6 44).toNat) = v1545.toInt := (E1551 _).trans (if_pos h1566)
                have K1568 : rK M0 M1547 o0 ((880 + ra M0 o0 6 44).toNat) := K1535.st A1552 E1551 (by have := mz_nat9 (i := v42) (by have := R1522.1 15 _ _ rfl; have := R1522.1 16 _ _ rfl; have := R1522.1 19 _ _ rfl; omega); have := R1522.1 15 _ _ rfl; have := R1522.1 16 _ _ rfl; have := R1522.1 19 _ _ rfl; omega)
                have K1569 : nN M1547 o0 := K1536.same (sA_a A1552 (by decide)) (sF_a V1553)
                have F1570 : rE M1547 M1547 o0 0 0 := rE.rf E1565.1
                have : ra M1547 o0 5 44 = v1545.toInt := by omega
                clear z1527 z1528 z1529 z1530 z1531 z1532 z1533
                refine mv_aload_n d_TrustDeskModel_readRule_164 rfl rfl ?_
                obtain ⟨_, b1577, -⟩ := I1548.1 _ _ t1524
                refine mv_callV (kc' := 0) (ks' := 0) (As := []) (st9 := [.ref o0]) d_TrustDeskModel_readRule_165 lV_TrustDeskModel_302 b1577 rfl (tc_TrustDeskModel_cond_q5_x (d := d) (x9 := x9) (o0 := o0) t1524 R1550 E1565.1 (E1565.s yS (by decide)) (Classical.byCases (fun w9 : rv M1547 o0 19 = 0 => by have u91 : rv M1516 o0 19 = 0 := (by omega); have := f1525.o u91; have := f1526.o u91; have u92 : rv M36 o0 19 = 0 := (by omega); have := f51.o u92; have := f52.o u92; omega) (fun w9 : ¬ rv M1547 o0 19 = 0 => by omega)) I1548.start) rfl (Nat.le_of_ble_eq_true rfl) (Nat.le_of_ble_eq_true rfl) (Nat.le_of_ble_eq_true rfl) (hst := rfl) (fun b1571r M1572 n1573 b1571 => ?_)
                obtain ⟨T1574, J1575, rfl, R1578, f1579, f1580⟩ := b1571
                have I1576 := I1548.call J1575 (tm_sub (by decide)) (Or.inl rfl)
                have t1581 := J1575.up t1524
                have := f1579.2.1
                have f1582 := Im.i f1579.w.2
                have f1583 := Im.i f1579.w2
                replace f1580 := Im.i f1580
                have z1584 := (rv_c I1548 J1575 (I1548.up h_o0) (k := 24) rfl).trans z1559
                have z1585 := (ra_call I1548 J1575 (I1548.up h_o0) (k := 6) rfl rfl rfl 44).trans z1561
                have z1586 := (ra_call I1548 J1575 (I1548.up h_o0) (k := 7) rfl rfl rfl ((880 + ra M0 o0 6 44).toNat)).trans z1562
                have z1587 := (ra_call I1548 J1575 (I1548.up h_o0) (k := 10) rfl rfl rfl ((880 + ra M0 o0 6 44).toNat)).trans z1563
                have z1588 := (ra_call I1548 J1575 (I1548.up h_o0) (k := 8) rfl rfl rfl ((880 + ra M0 o0 6 44).toNat)).trans z1564
                have z1589 := (ra_call I1548 J1575 (I1548.up h_o0) (k := 11) rfl rfl rfl ((880 + ra M0 o0 6 44).toNat)).trans z1567
                have E1590 : rE M0 M1572 o0 1 3 := E1565.trans f1579 (by decide) (yR.2 5 _ _ rfl 44).1 (by decide) (by decide)
                have K1591 : rK M0 M1572 o0 ((880 + ra M0 o0 6 44).toNat) := K1568.same (sA_c I1548 J1575 (I1548.up h_o0) (by decide))
                have K1592 : nN M1572 o0 := K1569.same (sA_c I1548 J1575 (I1548.up h_o0) (by decide)) (sF_c I1548 J1575 (I1548.up h_o0) (by decide))
                have F1593 : rE M1547 M1572 o0 1 0 := F1570.trans f1579 (by decide) (R1550.2 5 _ _ rfl 44).1 (by decide) (by decide)
                clear z1559 z1561 z1562 z1563 z1564 z1567
                have q1594 := J1575.keep t1524 (by decide) (K1549 _ 13 6 _ q1537)
                have t1595 := J1575.up t1538
                have q1596 := J1575.keep t1524 (by decide) (K1549 _ 13 8 _ q1539)
                have t1597 := J1575.up t1540
                have q1598 := J1575.keep t1524 (by decide) (K1549 _ 13 11 _ q1541)
                have t1599 := J1575.up t_a1542
                have q1600 := J1575.keep t1524 (by decide) (K1549 _ 13 5 _ q1543)
                have t1601 := J1575.up t_a1544
                refine mv_goto (tgt := 251) d_TrustDeskModel_readRule_168 (by decide) ?_
                refine mv_aload_n d_TrustDeskModel_readRule_251 rfl rfl ?_
                refine mv_bipush (v := 59) d_TrustDeskModel_readRule_252 (by decide) ?_
                obtain ⟨_, b1608, -⟩ := I1576.1 _ _ t1581
                have : (59 : Int32).toInt = 59 := by decide
                refine mv_callV (kc' := 0) (ks' := 0) (As := [.int 59]) (st9 := [.int 59, .ref o0]) d_TrustDeskModel_readRule_254 lV_TrustDeskModel_291 b1608 rfl (tc_TrustDeskModel_wantSign_x (d := (d + 22)) (x9 := x9) (o0 := o0) (x1 := 59) t1581 R1578 E1590.1 (E1590.s yS (by decide)) I1576.start) rfl (Nat.le_of_ble_eq_true rfl) (Nat.le_of_ble_eq_true rfl) (Nat.le_of_ble_eq_true rfl) (hst := rfl) (fun b1602r M1603 n1604 b1602 => ?_)
                obtain ⟨T1605, J1606, rfl, R1609, f1610⟩ := b1602
                have I1607 := I1576.call J1606 (tm_sub (by decide)) (Or.inl rfl)
                have t1611 := J1606.up t1581
                have := f1610.2.1
                have f1612 := Im.i f1610.w.2
                have f1613 := Im.i f1610.w2
                have z1614 := (rv_c I1576 J1606 (I1576.up h_o0) (k := 22) rfl)
                have z1615 := (rv_c I1576 J1606 (I1576.up h_o0) (k := 24) rfl).trans z1584
                have z1616 := (ra_call I1576 J1606 (I1576.up h_o0) (k := 5) rfl rfl rfl 44)
                have z1617 := (ra_call I1576 J1606 (I1576.up h_o0) (k := 6) rfl rfl rfl 44).trans z1585
                have z1618 := (ra_call I1576 J1606 (I1576.up h_o0) (k := 7) rfl rfl rfl ((880 + ra M0 o0 6 44).toNat)).trans z1586
                have z1619 := (ra_call I1576 J1606 (I1576.up h_o0) (k := 10) rfl rfl rfl ((880 + ra M0 o0 6 44).toNat)).trans z1587
                have z1620 := (ra_call I1576 J1606 (I1576.up h_o0) (k := 8) rfl rfl rfl ((880 + ra M0 o0 6 44).toNat)).trans z1588
                have z1621 := (ra_call I1576 J1606 (I1576.up h_o0) (k := 11) rfl rfl rfl ((880 + ra M0 o0 6 44).toNat)).trans z1589
                have E1622 : rE M0 M1603 o0 1 4 := E1590.trans f1610 (by decide) (yR.2 5 _ _ rfl 44).1 (by decide) (by decide)
                have K1623 : rK M0 M1603 o0 ((880 + ra M0 o0 6 44).toNat) := K1591.same (sA_c I1576 J1606 (I1576.up h_o0) (by decide))
                have K1624 : nN M1603 o0 := K1592.same (sA_c I1576 J1606 (I1576.up h_o0) (by decide)) (sF_c I1576 J1606 (I1576.up h_o0) (by decide))
                have F1625 : rE M1547 M1603 o0 1 1 := F1593.trans f1610 (by decide) (R1550.2 5 _ _ rfl 44).1 (by decide) (by decide)
                clear z1584 z1585 z1586 z1587 z1588 z1589
                have q1626 := J1606.keep t1581 (by decide) q1594
                have t1627 := J1606.up t1595
                have q1628 := J1606.keep t1581 (by decide) q1596
                have t1629 := J1606.up t1597
                have q1630 := J1606.keep t1581 (by decide) q1598
                have t1631 := J1606.up t1599
                have q1632 := J1606.keep t1581 (by decide) q1600
                have t1633 := J1606.up t1601
                refine mv_aload_n d_TrustDeskModel_readRule_257 rfl rfl ?_
                obtain ⟨a1635, q1634, t_a1635⟩ := tm_atR I1607 t1611 (k := 12) rfl
                refine tr_getK q1634 d_TrustDeskModel_readRule_258 f_TrustDeskModel_41_13 ?_
                refine mv_iload_n d_TrustDeskModel_readRule_261 rfl rfl ?_
                refine mv_aload_n d_TrustDeskModel_readRule_262 rfl rfl ?_
                refine tr_getK (k := 5) q1632 d_TrustDeskModel_readRule_263 f_TrustDeskModel_20_13 ?_
                refine mv_bipush (v := 44) d_TrustDeskModel_readRule_266 (by decide) ?_
                refine tr_ialdR (o := o0) (k := 5) I1607 q1632 t1633 (by decide) d_TrustDeskModel_readRule_268 (by unfold vp_in; decide) (fun v1636 e1637 => ?_)
                have := R1609.a (k := 5) rfl (44 : Int32).toNatClampNeg
                have : v1636.toInt = ra M1603 o0 5 44 := e1637
                have : v1636.toInt = _ := Eq.trans e1637 z1616
                refine tr_iastR (k := 12) I1607 R1609 (I1607.up h_o0) q1634 t_a1635 (by decide) (by decide) (fun lo hi h => by cases h; have := R1609.1 15 _ _ rfl; have := R1609.1 16 _ _ rfl; have := R1609.1 19 _ _ rfl; exact ⟨by show (0 : Int) ≤ v1636.toInt; omega, by show v1636.toInt ≤ (400 : Int); omega⟩) (Or.inl (by decide)) d_TrustDeskModel_readRule_269 (vp_in_iff.mpr (by have := R1609.1 15 _ _ rfl; have := R1609.1 16 _ _ rfl; have := R1609.1 19 _ _ rfl; omega)) (fun M1638 I1639 K1640 R1641 E1642 A1643 V1644 => ?_)
                have z1645 := (V1644 15)
                have z1646 := (V1644 16)
                have z1647 := (V1644 17)
                have z1648 := (V1644 19)
                have z1649 := (V1644 22).trans z1614
                have z1650 := (V1644 24).trans z1615
                have z1651 := (A1643 5 (by decide) rfl 44).trans z1616
                have z1652 := (A1643 6 (by decide) rfl 44).trans z1617
                have z1653 := (A1643 7 (by decide) rfl ((880 + ra M0 o0 6 44).toNat)).trans z1618
                have z1654 := (A1643 10 (by decide) rfl ((880 + ra M0 o0 6 44).toNat)).trans z1619
                have z1655 := (A1643 8 (by decide) rfl ((880 + ra M0 o0 6 44).toNat)).trans z1620
                have z1656 := (A1643 11 (by decide) rfl ((880 + ra M0 o0 6 44).toNat)).trans z1621
                have E1657 : rE M0 M1638 o0 1 4 := E1622.same (fun k _ _ => V1644 k) (fun k h1 h2 => A1643 k (by omega) (by rcases (show k = 4 ∨ k = 5 by omega) with rfl | rfl <;> rfl))
                have h1658 : (880 + ra M0 o0 6 44).toNat = v42.toNatClampNeg := by have := mz_nat9 (i := v42) (by have := R1609.1 15 _ _ rfl; have := R1609.1 16 _ _ rfl; have := R1609.1 19 _ _ rfl; omega); have := R1609.1 15 _ _ rfl; have := R1609.1 16 _ _ rfl; have := R1609.1 19 _ _ rfl; omega
                have z1659 : ra M1638 o0 12 ((880 + ra M0 o0 6 44).toNat) = v1636.toInt := (E1642 _).trans (if_pos h1658)
                have K1660 : rK M0 M1638 o0 ((880 + ra M0 o0 6 44).toNat) := K1623.st A1643 E1642 (by have := mz_nat9 (i := v42) (by have := R1609.1 15 _ _ rfl; have := R1609.1 16 _ _ rfl; have := R1609.1 19 _ _ rfl; omega); have := R1609.1 15 _ _ rfl; have := R1609.1 16 _ _ rfl; have := R1609.1 19 _ _ rfl; omega)
                have K1661 : nN M1638 o0 := K1624.same (sA_a A1643 (by decide)) (sF_a V1644)
                have F1662 : rE M1547 M1638 o0 1 1 := F1625.same (fun k _ _ => V1644 k) (fun k h1 h2 => A1643 k (by omega) (by rcases (show k = 4 ∨ k = 5 by omega) with rfl | rfl <;> rfl))
                clear z1614 z1615 z1616 z1617 z1618 z1619 z1620 z1621
                exact mv_vret d_TrustDeskModel_readRule_270 rfl ⟨_, I1639, rfl, R1641, (rW.of E1657.1 (E1657.s yS (by decide)) (fun w9 => by have u91 : rv M1603 o0 19 = 0 := (by omega); have := f1612.o u91; have := f1613.o u91; have u92 : rv M1572 o0 19 = 0 := (by omega); have := f1582.o u92; have := f1583.o u92; have := f1580.o u92; have u93 : rv M1516 o0 19 = 0 := (by omega); have := f1525.o u93; have := f1526.o u93; have u94 : rv M36 o0 19 = 0 := (by omega); have := f51.o u94; have := f52.o u94; exact rG.step yG yR E1657 w9 K1660 (by have := yR.2 6 _ _ rfl 44; omega) (by have := R1641.1 15 _ _ rfl; have := R1641.1 16 _ _ rfl; have := R1641.1 19 _ _ rfl; omega) (by have := R1641.1 15 _ _ rfl; have := R1641.1 16 _ _ rfl; have := R1641.1 19 _ _ rfl; omega) (fun _ => rowN.of E1565 F1662 w9 (by decide) (by decide) (yR.2 5 _ _ rfl 44).1 (by have := R1641.1 15 _ _ rfl; have := R1641.1 16 _ _ rfl; have := R1641.1 19 _ _ rfl; omega) (by have := R1641.1 15 _ _ rfl; have := R1641.1 16 _ _ rfl; have := R1641.1 19 _ _ rfl; omega) (by have := R1641.1 15 _ _ rfl; have := R1641.1 16 _ _ rfl; have := R1641.1 19 _ _ rfl; omega)) (fun h9 => (by have := R1641.1 15 _ _ rfl; have := R1641.1 16 _ _ rfl; have := R1641.1 19 _ _ rfl; omega)) (by have := R1641.1 15 _ _ rfl; have := R1641.1 16 _ _ rfl; have := R1641.1 19 _ _ rfl; omega) K1661)), (rO.of E1657 K1660 (by have := yR.2 6 _ _ rfl 44; omega)), ⟨E1657.2.1, fun w9 => by skip; have := E1657.w2 w9; omega⟩, (fun w9 => by have u91 : rv M1603 o0 19 = 0 := (by omega); have := f1612.o u91; have := f1613.o u91; have u92 : rv M1572 o0 19 = 0 := (by omega); have := f1582.o u92; have := f1583.o u92; have := f1580.o u92; have u93 : rv M1516 o0 19 = 0 := (by omega); have := f1525.o u93; have := f1526.o u93; have u94 : rv M36 o0 19 = 0 := (by omega); have := f51.o u94; have := f52.o u94; omega)⟩
            · refine mv_iconst (v := 1) d_TrustDeskModel_readRule_84 (by decide) ?_
              refine mv_goto (tgt := 117) d_TrustDeskModel_readRule_85 (by decide) ?_
              refine tr_iastR (k := 8) I956 R961 (I956.up h_o0) q981 t964 (by decide) (by decide) (fun lo hi h => by cases h; exact (by decide)) (Or.inl (by decide)) d_TrustDeskModel_readRule_117 (vp_in_iff.mpr (by have := R961.1 15 _ _ rfl; have := R961.1 16 _ _ rfl; have := R961.1 19 _ _ rfl; omega)) (fun M1663 I1664 K1665 R1666 E1667 A1668 V1669 => ?_)
              have z1670 := (V1669 15).trans z965
              have z1671 := (V1669 16).trans z966
              have z1672 := (V1669 17).trans z967
              have z1673 := (V1669 19).trans z968
              have z1674 := (V1669 22).trans z969
              have z1675 := (V1669 24).trans z970
              have z1676 := (A1668 5 (by decide) rfl 44).trans z971
              have z1677 := (A1668 6 (by decide) rfl 44).trans z972
              have z1678 := (A1668 7 (by decide) rfl ((880 + ra M0 o0 6 44).toNat)).trans z973
              have z1679 := (A1668 10 (by decide) rfl ((880 + ra M0 o0 6 44).toNat)).trans z974
              have E1680 : rE M0 M1663 o0 0 1 := E975.same (fun k _ _ => V1669 k) (fun k h1 h2 => A1668 k (by omega) (by rcases (show k = 4 ∨ k = 5 by omega) with rfl | rfl <;> rfl))
              have h1681 : (880 + ra M0 o0 6 44).toNat = v42.toNatClampNeg := by have := mz_nat9 (i := v42) (by have := R961.1 15 _ _ rfl; have := R961.1 16 _ _ rfl; have := R961.1 19 _ _ rfl; omega); have := R961.1 15 _ _ rfl; have := R961.1 16 _ _ rfl; have := R961.1 19 _ _ rfl; omega
              have z1682 : ra M1663 o0 8 ((880 + ra M0 o0 6 44).toNat) = 1 := (E1667 _).trans (if_pos h1681)
              have K1683 : rK M0 M1663 o0 ((880 + ra M0 o0 6 44).toNat) := K976.st A1668 E1667 (by have := mz_nat9 (i := v42) (by have := R961.1 15 _ _ rfl; have := R961.1 16 _ _ rfl; have := R961.1 19 _ _ rfl; omega); have := R961.1 15 _ _ rfl; have := R961.1 16 _ _ rfl; have := R961.1 19 _ _ rfl; omega)
              have K1684 : nN M1663 o0 := K977.same (sA_a A1668 (by decide)) (sF_a V1669)
              clear z965 z966 z967 z969 z970 z971 z972 z973 z974
              refine mv_aload_n d_TrustDeskModel_readRule_118 rfl rfl ?_
              refine tr_getK (k := 8) (K1665 _ 13 8 _ q981) d_TrustDeskModel_readRule_119 f_TrustDeskModel_29_13 ?_
              refine mv_iload_n d_TrustDeskModel_readRule_122 rfl rfl ?_
              refine tr_ialdR (o := o0) (k := 8) I1664 (K1665 _ 13 8 _ q981) t964 (by decide) d_TrustDeskModel_readRule_123 (vp_in_iff.mpr (by have := R1666.1 15 _ _ rfl; have := R1666.1 16 _ _ rfl; have := R1666.1 19 _ _ rfl; omega)) (fun v1685 e1686 => ?_)
              have := R1666.a (k := 8) rfl (v42 : Int32).toNatClampNeg
              have h1687 : (880 + ra M0 o0 6 44).toNat = v42.toNatClampNeg := by have := mz_nat9 (i := v42) (by have := R1666.1 15 _ _ rfl; have := R1666.1 16 _ _ rfl; have := R1666.1 19 _ _ rfl; omega); have := R1666.1 15 _ _ rfl; have := R1666.1 16 _ _ rfl; have := R1666.1 19 _ _ rfl; omega
              have z1688 : v1685.toInt = ra M1663 o0 8 ((880 + ra M0 o0 6 44).toNat) := by rw [e1686, h1687]
              have : v1685.toInt = _ := Eq.trans z1688 z1682
              refine mv_iconst (v := (-1)) d_TrustDeskModel_readRule_124 (by decide) ?_
              have := mz_hi v1685
              refine mv_icmp_neZ (tgt := 133) (a := v1685.toInt) (b := (-1)) d_TrustDeskModel_readRule_125 (by decide) rfl (by decide) (fun b1689 => ?_) (fun b1689 => absurd b1689 (by omega))
              refine mv_aload_n d_TrustDeskModel_readRule_133 rfl rfl ?_
              obtain ⟨_, b1690, -⟩ := I1664.1 _ _ t963
              refine mv_callV (kc1 := 0) (ks1 := 0) (kc' := 0) (ks' := 0) (As := []) (st9 := [.ref o0]) d_TrustDeskModel_readRule_134 lV_TrustDeskModel_230 b1690 rfl (mj_enter (by decide) (Nat.le_of_ble_eq_true rfl) ?_) rfl (Nat.le_of_ble_eq_true rfl) (Nat.le_of_ble_eq_true rfl) (Nat.le_of_ble_eq_true rfl) (hst := rfl) (fun _ _ _ h => h)
              refine mv_aload_n d_TrustDeskModel_isWell_0 rfl rfl ?_
              refine tr_getK (k := 19) (K1665 _ 13 19 _ q980) d_TrustDeskModel_isWell_1 f_TrustDeskModel_224_13 ?_
              have := mz_hi v33
              refine mv_if_neZ (tgt := 11) (a := v33.toInt) d_TrustDeskModel_isWell_4 (by decide) rfl (fun b1691 => absurd b1691 (by omega)) (fun b1691 => ?_)
              refine mv_iconst (v := 1) d_TrustDeskModel_isWell_7 (by decide) ?_
              refine mv_goto (tgt := 12) d_TrustDeskModel_isWell_8 (by decide) ?_
              refine mv_iret d_TrustDeskModel_isWell_12 rfl (by decide) ?_
              refine mv_if_eq_f (tgt := 144) d_TrustDeskModel_readRule_137 (by decide) (by decide) ?_
              refine mv_aload_n d_TrustDeskModel_readRule_140 rfl rfl ?_
              obtain ⟨_, b1698, -⟩ := I1664.1 _ _ t963
              refine mv_callV (kc' := 0) (ks' := 0) (As := []) (st9 := [.ref o0]) d_TrustDeskModel_readRule_141 lV_TrustDeskModel_237 b1698 rfl (tc_TrustDeskModel_next_x (d := (d + 23)) (x9 := x9) (o0 := o0) t963 R1666 I1664.start) rfl (Nat.le_of_ble_eq_true rfl) (Nat.le_of_ble_eq_true rfl) (Nat.le_of_ble_eq_true rfl) (hst := rfl) (fun b1692r M1693 n1694 b1692 => ?_)
              obtain ⟨T1695, J1696, rfl, R1699, f1700, f1701⟩ := b1692
              have I1697 := I1664.call J1696 (tm_sub (by decide)) (Or.inl rfl)
              have t1702 := J1696.up t963
              have z1703 := (rv_c I1664 J1696 (I1664.up h_o0) (k := 19) rfl).trans z1673
              have z1704 := (rv_c I1664 J1696 (I1664.up h_o0) (k := 22) rfl).trans z1674
              have z1705 := (rv_c I1664 J1696 (I1664.up h_o0) (k := 24) rfl).trans z1675
              have z1706 := (ra_call I1664 J1696 (I1664.up h_o0) (k := 5) rfl rfl rfl 44).trans z1676
              have z1707 := (ra_call I1664 J1696 (I1664.up h_o0) (k := 6) rfl rfl rfl 44).trans z1677
              have z1708 := (ra_call I1664 J1696 (I1664.up h_o0) (k := 7) rfl rfl rfl ((880 + ra M0 o0 6 44).toNat)).trans z1678
              have z1709 := (ra_call I1664 J1696 (I1664.up h_o0) (k := 10) rfl rfl rfl ((880 + ra M0 o0 6 44).toNat)).trans z1679
              have z1710 := (ra_call I1664 J1696 (I1664.up h_o0) (k := 8) rfl rfl rfl ((880 + ra M0 o0 6 44).toNat)).trans z1682
              have h1712 : rv M1663 o0 16 + 1 ≤ rv M1663 o0 15 := (by have := f962.o (by omega); have := E1680.1.2.1 (by omega); omega)
              have E1711 : rE M0 M1693 o0 0 2 := E1680.next f1700 f1701 (rv_c I1664 J1696 (I1664.up h_o0) (k := 19) rfl) (rE_ha I1664 J1696 (I1664.up h_o0) (by decide)) (e := 1) h1712 (by decide)
              have K1713 : rK M0 M1693 o0 ((880 + ra M0 o0 6 44).toNat) := K1683.same (sA_c I1664 J1696 (I1664.up h_o0) (by decide))
              have K1714 : nN M1693 o0 := K1684.same (sA_c I1664 J1696 (I1664.up h_o0) (by decide)) (sF_c I1664 J1696 (I1664.up h_o0) (by decide))
              clear z1674 z1675 z1676 z1677 z1678 z1679 z1682
              have q1715 := J1696.keep t963 (by decide) (K1665 _ 13 6 _ q978)
              have t1716 := J1696.up t979
              have q1717 := J1696.keep t963 (by decide) (K1665 _ 13 19 _ q980)
              have q1718 := J1696.keep t963 (by decide) (K1665 _ 13 8 _ q981)
              have t1719 := J1696.up t964
              refine mv_aload_n d_TrustDeskModel_readRule_144 rfl rfl ?_
              refine mv_ldcSw (id := 25) (tx := "if") d_TrustDeskModel_readRule_145 (List.mem_of_getElem? (i := 15) rfl) ?_
              obtain ⟨_, b1726, -⟩ := I1697.1 _ _ t1702
              refine mv_callV (kc' := 0) (ks' := 0) (As := [.ref 25]) (st9 := [.ref 25, .ref o0]) d_TrustDeskModel_readRule_148 lV_TrustDeskModel_329 b1726 rfl (tc_TrustDeskModel_wantWord_s1_25_x (d := (d + 19)) (x9 := x9) (o0 := o0) t1702 R1699 E1711.1 (E1711.s yS (by decide)) I1697.start) rfl (Nat.le_of_ble_eq_true rfl) (Nat.le_of_ble_eq_true rfl) (Nat.le_of_ble_eq_true rfl) (hst := rfl) (fun b1720r M1721 n1722 b1720 => ?_)
              obtain ⟨T1723, J1724, rfl, R1727, f1728⟩ := b1720
              have I1725 := I1697.call J1724 (tm_sub (by decide)) (Or.inl rfl)
              have t1729 := J1724.up t1702
              have := f1728.2.1
              have f1730 := Im.i f1728.w.2
              have f1731 := Im.i f1728.w2
              have z1732 := (rv_c I1697 J1724 (I1697.up h_o0) (k := 22) rfl).trans z1704
              have z1733 := (rv_c I1697 J1724 (I1697.up h_o0) (k := 24) rfl).trans z1705
              have z1734 := (ra_call I1697 J1724 (I1697.up h_o0) (k := 5) rfl rfl rfl 44).trans z1706
              have z1735 := (ra_call I1697 J1724 (I1697.up h_o0) (k := 6) rfl rfl rfl 44).trans z1707
              have z1736 := (ra_call I1697 J1724 (I1697.up h_o0) (k := 7) rfl rfl rfl ((880 + ra M0 o0 6 44).toNat)).trans z1708
              have z1737 := (ra_call I1697 J1724 (I1697.up h_o0) (k := 10) rfl rfl rfl ((880 + ra M0 o0 6 44).toNat)).trans z1709
              have z1738 := (ra_call I1697 J1724 (I1697.up h_o0) (k := 8) rfl rfl rfl ((880 + ra M0 o0 6 44).toNat)).trans z1710
              have E1739 : rE M0 M1721 o0 0 3 := E1711.trans f1728 (by decide) (yR.2 5 _ _ rfl 44).1 (by decide) (by decide)
              have K1740 : rK M0 M1721 o0 ((880 + ra M0 o0 6 44).toNat) := K1713.same (sA_c I1697 J1724 (I1697.up h_o0) (by decide))
              have K1741 : nN M1721 o0 := K1714.same (sA_c I1697 J1724 (I1697.up h_o0) (by decide)) (sF_c I1697 J1724 (I1697.up h_o0) (by decide))
              clear z1704 z1705 z1706 z1707 z1708 z1709 z1710
              have q1742 := J1724.keep t1702 (by decide) q1715
              have t1743 := J1724.up t1716
              have q1744 := J1724.keep t1702 (by decide) q1718
              have t1745 := J1724.up t1719
              refine mv_aload_n d_TrustDeskModel_readRule_151 rfl rfl ?_
              obtain ⟨a1747, q1746, t_a1747⟩ := tm_atR I1725 t1729 (k := 11) rfl
              refine tr_getK q1746 d_TrustDeskModel_readRule_152 f_TrustDeskModel_38_13 ?_
              refine mv_iload_n d_TrustDeskModel_readRule_155 rfl rfl ?_
              refine mv_aload_n d_TrustDeskModel_readRule_156 rfl rfl ?_
              obtain ⟨a1749, q1748, t_a1749⟩ := tm_atR I1725 t1729 (k := 5) rfl
              refine tr_getK q1748 d_TrustDeskModel_readRule_157 f_TrustDeskModel_20_13 ?_
              refine mv_bipush (v := 44) d_TrustDeskModel_readRule_160 (by decide) ?_
              refine tr_ialdR (o := o0) (k := 5) I1725 q1748 t_a1749 (by decide) d_TrustDeskModel_readRule_162 (by unfold vp_in; decide) (fun v1750 e1751 => ?_)
              have := R1727.a (k := 5) rfl (44 : Int32).toNatClampNeg
              have : v1750.toInt = ra M1721 o0 5 44 := e1751
              have : v1750.toInt = _ := Eq.trans e1751 z1734
              refine tr_iastR (k := 11) I1725 R1727 (I1725.up h_o0) q1746 t_a1747 (by decide) (by decide) (fun lo hi h => by cases h; have := R1727.1 15 _ _ rfl; have := R1727.1 16 _ _ rfl; have := R1727.1 19 _ _ rfl; exact ⟨by show (0 : Int) ≤ v1750.toInt; omega, by show v1750.toInt ≤ (400 : Int); omega⟩) (Or.inl (by decide)) d_TrustDeskModel_readRule_163 (vp_in_iff.mpr (by have := R1727.1 15 _ _ rfl; have := R1727.1 16 _ _ rfl; have := R1727.1 19 _ _ rfl; omega)) (fun M1752 I1753 K1754 R1755 E1756 A1757 V1758 => ?_)
              have z1759 := (V1758 15)
              have z1760 := (V1758 16)
              have z1761 := (V1758 17)
              have z1762 := (V1758 19)
              have z1763 := (V1758 22).trans z1732
              have z1764 := (V1758 24).trans z1733
              have z1765 := (A1757 5 (by decide) rfl 44).trans z1734
              have z1766 := (A1757 6 (by decide) rfl 44).trans z1735
              have z1767 := (A1757 7 (by decide) rfl ((880 + ra M0 o0 6 44).toNat)).trans z1736
              have z1768 := (A1757 10 (by decide) rfl ((880 + ra M0 o0 6 44).toNat)).trans z1737
              have z1769 := (A1757 8 (by decide) rfl ((880 + ra M0 o0 6 44).toNat)).trans z1738
              have E1770 : rE M0 M1752 o0 0 3 := E1739.same (fun k _ _ => V1758 k) (fun k h1 h2 => A1757 k (by omega) (by rcases (show k = 4 ∨ k = 5 by omega) with rfl | rfl <;> rfl))
              have h1771 : (880 + ra M0 o0 6 44).toNat = v42.toNatClampNeg := by have := mz_nat9 (i := v42) (by have := R1727.1 15 _ _ rfl; have := R1727.1 16 _ _ rfl; have := R1727.1 19 _ _ rfl; omega); have := R1727.1 15 _ _ rfl; have := R1727.1 16 _ _ rfl; have := R1727.1 19 _ _ rfl; omega
              have z1772 : ra M1752 o0 11 ((880 + ra M0 o0 6 44).toNat) = v1750.toInt := (E1756 _).trans (if_pos h1771)
              have K1773 : rK M0 M1752 o0 ((880 + ra M0 o0 6 44).toNat) := K1740.st A1757 E1756 (by have := mz_nat9 (i := v42) (by have := R1727.1 15 _ _ rfl; have := R1727.1 16 _ _ rfl; have := R1727.1 19 _ _ rfl; omega); have := R1727.1 15 _ _ rfl; have := R1727.1 16 _ _ rfl; have := R1727.1 19 _ _ rfl; omega)
              have K1774 : nN M1752 o0 := K1741.same (sA_a A1757 (by decide)) (sF_a V1758)
              have F1775 : rE M1752 M1752 o0 0 0 := rE.rf E1770.1
              have : ra M1752 o0 5 44 = v1750.toInt := by omega
              clear z1732 z1733 z1734 z1735 z1736 z1737 z1738
              refine mv_aload_n d_TrustDeskModel_readRule_164 rfl rfl ?_
              obtain ⟨_, b1782, -⟩ := I1753.1 _ _ t1729
              refine mv_callV (kc' := 0) (ks' := 0) (As := []) (st9 := [.ref o0]) d_TrustDeskModel_readRule_165 lV_TrustDeskModel_302 b1782 rfl (tc_TrustDeskModel_cond_q5_x (d := d) (x9 := x9) (o0 := o0) t1729 R1755 E1770.1 (E1770.s yS (by decide)) (Classical.byCases (fun w9 : rv M1752 o0 19 = 0 => by have u91 : rv M1721 o0 19 = 0 := (by omega); have := f1730.o u91; have := f1731.o u91; have u92 : rv M36 o0 19 = 0 := (by omega); have := f51.o u92; have := f52.o u92; omega) (fun w9 : ¬ rv M1752 o0 19 = 0 => by omega)) I1753.start) rfl (Nat.le_of_ble_eq_true rfl) (Nat.le_of_ble_eq_true rfl) (Nat.le_of_ble_eq_true rfl) (hst := rfl) (fun b1776r M1777 n1778 b1776 => ?_)
              obtain ⟨T1779, J1780, rfl, R1783, f1784, f1785⟩ := b1776
              have I1781 := I1753.call J1780 (tm_sub (by decide)) (Or.inl rfl)
              have t1786 := J1780.up t1729
              have := f1784.2.1
              have f1787 := Im.i f1784.w.2
              have f1788 := Im.i f1784.w2
              replace f1785 := Im.i f1785
              have z1789 := (rv_c I1753 J1780 (I1753.up h_o0) (k := 24) rfl).trans z1764
              have z1790 := (ra_call I1753 J1780 (I1753.up h_o0) (k := 6) rfl rfl rfl 44).trans z1766
              have z1791 := (ra_call I1753 J1780 (I1753.up h_o0) (k := 7) rfl rfl rfl ((880 + ra M0 o0 6 44).toNat)).trans z1767
              have z1792 := (ra_call I1753 J1780 (I1753.up h_o0) (k := 10) rfl rfl rfl ((880 + ra M0 o0 6 44).toNat)).trans z1768
              have z1793 := (ra_call I1753 J1780 (I1753.up h_o0) (k := 8) rfl rfl rfl ((880 + ra M0 o0 6 44).toNat)).trans z1769
              have z1794 := (ra_call I1753 J1780 (I1753.up h_o0) (k := 11) rfl rfl rfl ((880 + ra M0 o0 6 44).toNat)).trans z1772
              have E1795 : rE M0 M1777 o0 1 3 := E1770.trans f1784 (by decide) (yR.2 5 _ _ rfl 44).1 (by decide) (by decide)
              have K1796 : rK M0 M1777 o0 ((880 + ra M0 o0 6 44).toNat) := K1773.same (sA_c I1753 J1780 (I1753.up h_o0) (by decide))
              have K1797 : nN M1777 o0 := K1774.same (sA_c I1753 J1780 (I1753.up h_o0) (by decide)) (sF_c I1753 J1780 (I1753.up h_o0) (by decide))
              have F1798 : rE M1752 M1777 o0 1 0 := F1775.trans f1784 (by decide) (R1755.2 5 _ _ rfl 44).1 (by decide) (by decide)
              clear z1764 z1766 z1767 z1768 z1769 z1772
              have q1799 := J1780.keep t1729 (by decide) (K1754 _ 13 6 _ q1742)
              have t1800 := J1780.up t1743
              have q1801 := J1780.keep t1729 (by decide) (K1754 _ 13 8 _ q1744)
              have t1802 := J1780.up t1745
              have q1803 := J1780.keep t1729 (by decide) (K1754 _ 13 11 _ q1746)
              have t1804 := J1780.up t_a1747
              have q1805 := J1780.keep t1729 (by decide) (K1754 _ 13 5 _ q1748)
              have t1806 := J1780.up t_a1749
              refine mv_goto (tgt := 251) d_TrustDeskModel_readRule_168 (by decide) ?_
              refine mv_aload_n d_TrustDeskModel_readRule_251 rfl rfl ?_
              refine mv_bipush (v := 59) d_TrustDeskModel_readRule_252 (by decide) ?_
              obtain ⟨_, b1813, -⟩ := I1781.1 _ _ t1786
              have : (59 : Int32).toInt = 59 := by decide
              refine mv_callV (kc' := 0) (ks' := 0) (As := [.int 59]) (st9 := [.int 59, .ref o0]) d_TrustDeskModel_readRule_254 lV_TrustDeskModel_291 b1813 rfl (tc_TrustDeskModel_wantSign_x (d := (d + 22)) (x9 := x9) (o0 := o0) (x1 := 59) t1786 R1783 E1795.1 (E1795.s yS (by decide)) I1781.start) rfl (Nat.le_of_ble_eq_true rfl) (Nat.le_of_ble_eq_true rfl) (Nat.le_of_ble_eq_true rfl) (hst := rfl) (fun b1807r M1808 n1809 b1807 => ?_)
              obtain ⟨T1810, J1811, rfl, R1814, f1815⟩ := b1807
              have I1812 := I1781.call J1811 (tm_sub (by decide)) (Or.inl rfl)
              have t1816 := J1811.up t1786
              have := f1815.2.1
              have f1817 := Im.i f1815.w.2
              have f1818 := Im.i f1815.w2
              have z1819 := (rv_c I1781 J1811 (I1781.up h_o0) (k := 22) rfl)
              have z1820 := (rv_c I1781 J1811 (I1781.up h_o0) (k := 24) rfl).trans z1789
              have z1821 := (ra_call I1781 J1811 (I1781.up h_o0) (k := 5) rfl rfl rfl 44)
              have z1822 := (ra_call I1781 J1811 (I1781.up h_o0) (k := 6) rfl rfl rfl 44).trans z1790
              have z1823 := (ra_call I1781 J1811 (I1781.up h_o0) (k := 7) rfl rfl rfl ((880 + ra M0 o0 6 44).toNat)).trans z1791
              have z1824 := (ra_call I1781 J1811 (I1781.up h_o0) (k := 10) rfl rfl rfl ((880 + ra M0 o0 6 44).toNat)).trans z1792
              have z1825 := (ra_call I1781 J1811 (I1781.up h_o0) (k := 8) rfl rfl rfl ((880 + ra M0 o0 6 44).toNat)).trans z1793
              have z1826 := (ra_call I1781 J1811 (I1781.up h_o0) (k := 11) rfl rfl rfl ((880 + ra M0 o0 6 44).toNat)).trans z1794
              have E1827 : rE M0 M1808 o0 1 4 := E1795.trans f1815 (by decide) (yR.2 5 _ _ rfl 44).1 (by decide) (by decide)
              have K1828 : rK M0 M1808 o0 ((880 + ra M0 o0 6 44).toNat) := K1796.same (sA_c I1781 J1811 (I1781.up h_o0) (by decide))
              have K1829 : nN M1808 o0 := K1797.same (sA_c I1781 J1811 (I1781.up h_o0) (by decide)) (sF_c I1781 J1811 (I1781.up h_o0) (by decide))
              have F1830 : rE M1752 M1808 o0 1 1 := F1798.trans f1815 (by decide) (R1755.2 5 _ _ rfl 44).1 (by decide) (by decide)
              clear z1789 z1790 z1791 z1792 z1793 z1794
              have q1831 := J1811.keep t1786 (by decide) q1799
              have t1832 := J1811.up t1800
              have q1833 := J1811.keep t1786 (by decide) q1801
              have t1834 := J1811.up t1802
              have q1835 := J1811.keep t1786 (by decide) q1803
              have t1836 := J1811.up t1804
              have q1837 := J1811.keep t1786 (by decide) q1805
              have t1838 := J1811.up t1806
              refine mv_aload_n d_TrustDeskModel_readRule_257 rfl rfl ?_
              obtain ⟨a1840, q1839, t_a1840⟩ := tm_atR I1812 t1816 (k := 12) rfl
              refine tr_getK q1839 d_TrustDeskModel_readRule_258 f_TrustDeskModel_41_13 ?_
              refine mv_iload_n d_TrustDeskModel_readRule_261 rfl rfl ?_
              refine mv_aload_n d_TrustDeskModel_readRule_262 rfl rfl ?_
              refine tr_getK (k := 5) q1837 d_TrustDeskModel_readRule_263 f_TrustDeskModel_20_13 ?_
              refine mv_bipush (v := 44) d_TrustDeskModel_readRule_266 (by decide) ?_
              refine tr_ialdR (o := o0) (k := 5) I1812 q1837 t1838 (by decide) d_TrustDeskModel_readRule_268 (by unfold vp_in; decide) (fun v1841 e1842 => ?_)
              have := R1814.a (k := 5) rfl (44 : Int32).toNatClampNeg
              have : v1841.toInt = ra M1808 o0 5 44 := e1842
              have : v1841.toInt = _ := Eq.trans e1842 z1821
              refine tr_iastR (k := 12) I1812 R1814 (I1812.up h_o0) q1839 t_a1840 (by decide) (by decide) (fun lo hi h => by cases h; have := R1814.1 15 _ _ rfl; have := R1814.1 16 _ _ rfl; have := R1814.1 19 _ _ rfl; exact ⟨by show (0 : Int) ≤ v1841.toInt; omega, by show v1841.toInt ≤ (400 : Int); omega⟩) (Or.inl (by decide)) d_TrustDeskModel_readRule_269 (vp_in_iff.mpr (by have := R1814.1 15 _ _ rfl; have := R1814.1 16 _ _ rfl; have := R1814.1 19 _ _ rfl; omega)) (fun M1843 I1844 K1845 R1846 E1847 A1848 V1849 => ?_)
              have z1850 := (V1849 15)
              have z1851 := (V1849 16)
              have z1852 := (V1849 17)
              have z1853 := (V1849 19)
              have z1854 := (V1849 22).trans z1819
              have z1855 := (V1849 24).trans z1820
              have z1856 := (A1848 5 (by decide) rfl 44).trans z1821
              have z1857 := (A1848 6 (by decide) rfl 44).trans z1822
              have z1858 := (A1848 7 (by decide) rfl ((880 + ra M0 o0 6 44).toNat)).trans z1823
              have z1859 := (A1848 10 (by decide) rfl ((880 + ra M0 o0 6 44).toNat)).trans z1824
              have z1860 := (A1848 8 (by decide) rfl ((880 + ra M0 o0 6 44).toNat)).trans z1825
              have z1861 := (A1848 11 (by decide) rfl ((880 + ra M0 o0 6 44).toNat)).trans z1826
              have E1862 : rE M0 M1843 o0 1 4 := E1827.same (fun k _ _ => V1849 k) (fun k h1 h2 => A1848 k (by omega) (by rcases (show k = 4 ∨ k = 5 by omega) with rfl | rfl <;> rfl))
              have h1863 : (880 + ra M0 o0 6 44).toNat = v42.toNatClampNeg := by have := mz_nat9 (i := v42) (by have := R1814.1 15 _ _ rfl; have := R1814.1 16 _ _ rfl; have := R1814.1 19 _ _ rfl; omega); have := R1814.1 15 _ _ rfl; have := R1814.1 16 _ _ rfl; have := R1814.1 19 _ _ rfl; omega
              have z1864 : ra M1843 o0 12 ((880 + ra M0 o0 6 44).toNat) = v1841.toInt := (E1847 _).trans (if_pos h1863)
              have K1865 : rK M0 M1843 o0 ((880 + ra M0 o0 6 44).toNat) := K1828.st A1848 E1847 (by have := mz_nat9 (i := v42) (by have := R1814.1 15 _ _ rfl; have := R1814.1 16 _ _ rfl; have := R1814.1 19 _ _ rfl; omega); have := R1814.1 15 _ _ rfl; have := R1814.1 16 _ _ rfl; have := R1814.1 19 _ _ rfl; omega)
              have K1866 : nN M1843 o0 := K1829.same (sA_a A1848 (by decide)) (sF_a V1849)
              have F1867 : rE M1752 M1843 o0 1 1 := F1830.same (fun k _ _ => V1849 k) (fun k h1 h2 => A1848 k (by omega) (by rcases (show k = 4 ∨ k = 5 by omega) with rfl | rfl <;> rfl))
              clear z1819 z1820 z1821 z1822 z1823 z1824 z1825 z1826
              exact mv_vret d_TrustDeskModel_readRule_270 rfl ⟨_, I1844, rfl, R1846, (rW.of E1862.1 (E1862.s yS (by decide)) (fun w9 => by have u91 : rv M1808 o0 19 = 0 := (by omega); have := f1817.o u91; have := f1818.o u91; have u92 : rv M1777 o0 19 = 0 := (by omega); have := f1787.o u92; have := f1788.o u92; have := f1785.o u92; have u93 : rv M1721 o0 19 = 0 := (by omega); have := f1730.o u93; have := f1731.o u93; have u94 : rv M36 o0 19 = 0 := (by omega); have := f51.o u94; have := f52.o u94; exact rG.step yG yR E1862 w9 K1865 (by have := yR.2 6 _ _ rfl 44; omega) (by have := R1846.1 15 _ _ rfl; have := R1846.1 16 _ _ rfl; have := R1846.1 19 _ _ rfl; omega) (by have := R1846.1 15 _ _ rfl; have := R1846.1 16 _ _ rfl; have := R1846.1 19 _ _ rfl; omega) (fun _ => rowN.of E1770 F1867 w9 (by decide) (by decide) (yR.2 5 _ _ rfl 44).1 (by have := R1846.1 15 _ _ rfl; have := R1846.1 16 _ _ rfl; have := R1846.1 19 _ _ rfl; omega) (by have := R1846.1 15 _ _ rfl; have := R1846.1 16 _ _ rfl; have := R1846.1 19 _ _ rfl; omega) (by have := R1846.1 15 _ _ rfl; have := R1846.1 16 _ _ rfl; have := R1846.1 19 _ _ rfl; omega)) (fun h9 => (by have := R1846.1 15 _ _ rfl; have := R1846.1 16 _ _ rfl; have := R1846.1 19 _ _ rfl; omega)) (by have := R1846.1 15 _ _ rfl; have := R1846.1 16 _ _ rfl; have := R1846.1 19 _ _ rfl; omega) K1866)), (rO.of E1862 K1865 (by have := yR.2 6 _ _ rfl 44; omega)), ⟨E1862.2.1, fun w9 => by skip; have := E1862.w2 w9; omega⟩, (fun w9 => by have u91 : rv M1808 o0 19 = 0 := (by omega); have := f1817.o u91; have := f1818.o u91; have u92 : rv M1777 o0 19 = 0 := (by omega); have := f1787.o u92; have := f1788.o u92; have := f1785.o u92; have u93 : rv M1721 o0 19 = 0 := (by omega); have := f1730.o u93; have := f1731.o u93; have u94 : rv M36 o0 19 = 0 := (by omega); have := f51.o u94; have := f52.o u94; omega)⟩
          · refine mv_iconst (v := 0) d_TrustDeskModel_readRule_70 (by decide) ?_
            refine mv_goto (tgt := 117) d_TrustDeskModel_readRule_71 (by decide) ?_
            refine tr_iastR (k := 8) I924 R929 (I924.up h_o0) q949 t932 (by decide) (by decide) (fun lo hi h => by cases h; exact (by decide)) (Or.inl (by decide)) d_TrustDeskModel_readRule_117 (vp_in_iff.mpr (by have := R929.1 15 _ _ rfl; have := R929.1 16 _ _ rfl; have := R929.1 19 _ _ rfl; omega)) (fun M1868 I1869 K1870 R1871 E1872 A1873 V1874 => ?_)
            have z1875 := (V1874 15).trans z933
            have z1876 := (V1874 16).trans z934
            have z1877 := (V1874 17).trans z935
            have z1878 := (V1874 19).trans z936
            have z1879 := (V1874 22).trans z937
            have z1880 := (V1874 24).trans z938
            have z1881 := (A1873 5 (by decide) rfl 44).trans z939
            have z1882 := (A1873 6 (by decide) rfl 44).trans z940
            have z1883 := (A1873 7 (by decide) rfl ((880 + ra M0 o0 6 44).toNat)).trans z941
            have z1884 := (A1873 10 (by decide) rfl ((880 + ra M0 o0 6 44).toNat)).trans z942
            have E1885 : rE M0 M1868 o0 0 1 := E943.same (fun k _ _ => V1874 k) (fun k h1 h2 => A1873 k (by omega) (by rcases (show k = 4 ∨ k = 5 by omega) with rfl | rfl <;> rfl))
            have h1886 : (880 + ra M0 o0 6 44).toNat = v42.toNatClampNeg := by have := mz_nat9 (i := v42) (by have := R929.1 15 _ _ rfl; have := R929.1 16 _ _ rfl; have := R929.1 19 _ _ rfl; omega); have := R929.1 15 _ _ rfl; have := R929.1 16 _ _ rfl; have := R929.1 19 _ _ rfl; omega
            have z1887 : ra M1868 o0 8 ((880 + ra M0 o0 6 44).toNat) = 0 := (E1872 _).trans (if_pos h1886)
            have K1888 : rK M0 M1868 o0 ((880 + ra M0 o0 6 44).toNat) := K944.st A1873 E1872 (by have := mz_nat9 (i := v42) (by have := R929.1 15 _ _ rfl; have := R929.1 16 _ _ rfl; have := R929.1 19 _ _ rfl; omega); have := R929.1 15 _ _ rfl; have := R929.1 16 _ _ rfl; have := R929.1 19 _ _ rfl; omega)
            have K1889 : nN M1868 o0 := K945.same (sA_a A1873 (by decide)) (sF_a V1874)
            clear z933 z934 z935 z937 z938 z939 z940 z941 z942
            refine mv_aload_n d_TrustDeskModel_readRule_118 rfl rfl ?_
            refine tr_getK (k := 8) (K1870 _ 13 8 _ q949) d_TrustDeskModel_readRule_119 f_TrustDeskModel_29_13 ?_
            refine mv_iload_n d_TrustDeskModel_readRule_122 rfl rfl ?_
            refine tr_ialdR (o := o0) (k := 8) I1869 (K1870 _ 13 8 _ q949) t932 (by decide) d_TrustDeskModel_readRule_123 (vp_in_iff.mpr (by have := R1871.1 15 _ _ rfl; have := R1871.1 16 _ _ rfl; have := R1871.1 19 _ _ rfl; omega)) (fun v1890 e1891 => ?_)
            have := R1871.a (k := 8) rfl (v42 : Int32).toNatClampNeg
            have h1892 : (880 + ra M0 o0 6 44).toNat = v42.toNatClampNeg := by have := mz_nat9 (i := v42) (by have := R1871.1 15 _ _ rfl; have := R1871.1 16 _ _ rfl; have := R1871.1 19 _ _ rfl; omega); have := R1871.1 15 _ _ rfl; have := R1871.1 16 _ _ rfl; have := R1871.1 19 _ _ rfl; omega
            have z1893 : v1890.toInt = ra M1868 o0 8 ((880 + ra M0 o0 6 44).toNat) := by rw [e1891, h1892]
            have : v1890.toInt = _ := Eq.trans z1893 z1887
            refine mv_iconst (v := (-1)) d_TrustDeskModel_readRule_124 (by decide) ?_
            have := mz_hi v1890
            refine mv_icmp_neZ (tgt := 133) (a := v1890.toInt) (b := (-1)) d_TrustDeskModel_readRule_125 (by decide) rfl (by decide) (fun b1894 => ?_) (fun b1894 => absurd b1894 (by omega))
            refine mv_aload_n d_TrustDeskModel_readRule_133 rfl rfl ?_
            obtain ⟨_, b1895, -⟩ := I1869.1 _ _ t931
            refine mv_callV (kc1 := 0) (ks1 := 0) (kc' := 0) (ks' := 0) (As := []) (st9 := [.ref o0]) d_TrustDeskModel_readRule_134 lV_TrustDeskModel_230 b1895 rfl (mj_enter (by decide) (Nat.le_of_ble_eq_true rfl) ?_) rfl (Nat.le_of_ble_eq_true rfl) (Nat.le_of_ble_eq_true rfl) (Nat.le_of_ble_eq_true rfl) (hst := rfl) (fun _ _ _ h => h)
            refine mv_aload_n d_TrustDeskModel_isWell_0 rfl rfl ?_
            refine tr_getK (k := 19) (K1870 _ 13 19 _ q948) d_TrustDeskModel_isWell_1 f_TrustDeskModel_224_13 ?_
            have := mz_hi v33
            refine mv_if_neZ (tgt := 11) (a := v33.toInt) d_TrustDeskModel_isWell_4 (by decide) rfl (fun b1896 => absurd b1896 (by omega)) (fun b1896 => ?_)
            refine mv_iconst (v := 1) d_TrustDeskModel_isWell_7 (by decide) ?_
            refine mv_goto (tgt := 12) d_TrustDeskModel_isWell_8 (by decide) ?_
            refine mv_iret d_TrustDeskModel_isWell_12 rfl (by decide) ?_
            refine mv_if_eq_f (tgt := 144) d_TrustDeskModel_readRule_137 (by decide) (by decide) ?_
            refine mv_aload_n d_TrustDeskModel_readRule_140 rfl rfl ?_
            obtain ⟨_, b1903, -⟩ := I1869.1 _ _ t931
            refine mv_callV (kc' := 0) (ks' := 0) (As := []) (st9 := [.ref o0]) d_TrustDeskModel_readRule_141 lV_TrustDeskModel_237 b1903 rfl (tc_TrustDeskModel_next_x (d := (d + 23)) (x9 := x9) (o0 := o0) t931 R1871 I1869.start) rfl (Nat.le_of_ble_eq_true rfl) (Nat.le_of_ble_eq_true rfl) (Nat.le_of_ble_eq_true rfl) (hst := rfl) (fun b1897r M1898 n1899 b1897 => ?_)
            obtain ⟨T1900, J1901, rfl, R1904, f1905, f1906⟩ := b1897
            have I1902 := I1869.call J1901 (tm_sub (by decide)) (Or.inl rfl)
            have t1907 := J1901.up t931
            have z1908 := (rv_c I1869 J1901 (I1869.up h_o0) (k := 19) rfl).trans z1878
            have z1909 := (rv_c I1869 J1901 (I1869.up h_o0) (k := 22) rfl).trans z1879
            have z1910 := (rv_c I1869 J1901 (I1869.up h_o0) (k := 24) rfl).trans z1880
            have z1911 := (ra_call I1869 J1901 (I1869.up h_o0) (k := 5) rfl rfl rfl 44).trans z1881
            have z1912 := (ra_call I1869 J1901 (I1869.up h_o0) (k := 6) rfl rfl rfl 44).trans z1882
            have z1913 := (ra_call I1869 J1901 (I1869.up h_o0) (k := 7) rfl rfl rfl ((880 + ra M0 o0 6 44).toNat)).trans z1883
            have z1914 := (ra_call I1869 J1901 (I1869.up h_o0) (k := 10) rfl rfl rfl ((880 + ra M0 o0 6 44).toNat)).trans z1884
            have z1915 := (ra_call I1869 J1901 (I1869.up h_o0) (k := 8) rfl rfl rfl ((880 + ra M0 o0 6 44).toNat)).trans z1887
            have h1917 : rv M1868 o0 16 + 1 ≤ rv M1868 o0 15 := (by have := f930.o (by omega); have := E1885.1.2.1 (by omega); omega)
            have E1916 : rE M0 M1898 o0 0 2 := E1885.next f1905 f1906 (rv_c I1869 J1901 (I1869.up h_o0) (k := 19) rfl) (rE_ha I1869 J1901 (I1869.up h_o0) (by decide)) (e := 1) h1917 (by decide)
            have K1918 : rK M0 M1898 o0 ((880 + ra M0 o0 6 44).toNat) := K1888.same (sA_c I1869 J1901 (I1869.up h_o0) (by decide))
            have K1919 : nN M1898 o0 := K1889.same (sA_c I1869 J1901 (I1869.up h_o0) (by decide)) (sF_c I1869 J1901 (I1869.up h_o0) (by decide))
            clear z1879 z1880 z1881 z1882 z1883 z1884 z1887
            have q1920 := J1901.keep t931 (by decide) (K1870 _ 13 6 _ q946)
            have t1921 := J1901.up t947
            have q1922 := J1901.keep t931 (by decide) (K1870 _ 13 19 _ q948)
            have q1923 := J1901.keep t931 (by decide) (K1870 _ 13 8 _ q949)
            have t1924 := J1901.up t932
            refine mv_aload_n d_TrustDeskModel_readRule_144 rfl rfl ?_
            refine mv_ldcSw (id := 25) (tx := "if") d_TrustDeskModel_readRule_145 (List.mem_of_getElem? (i := 15) rfl) ?_
            obtain ⟨_, b1931, -⟩ := I1902.1 _ _ t1907
            refine mv_callV (kc' := 0) (ks' := 0) (As := [.ref 25]) (st9 := [.ref 25, .ref o0]) d_TrustDeskModel_readRule_148 lV_TrustDeskModel_329 b1931 rfl (tc_TrustDeskModel_wantWord_s1_25_x (d := (d + 19)) (x9 := x9) (o0 := o0) t1907 R1904 E1916.1 (E1916.s yS (by decide)) I1902.start) rfl (Nat.le_of_ble_eq_true rfl) (Nat.le_of_ble_eq_true rfl) (Nat.le_of_ble_eq_true rfl) (hst := rfl) (fun b1925r M1926 n1927 b1925 => ?_)
            obtain ⟨T1928, J1929, rfl, R1932, f1933⟩ := b1925
            have I1930 := I1902.call J1929 (tm_sub (by decide)) (Or.inl rfl)
            have t1934 := J1929.up t1907
            have := f1933.2.1
            have f1935 := Im.i f1933.w.2
            have f1936 := Im.i f1933.w2
            have z1937 := (rv_c I1902 J1929 (I1902.up h_o0) (k := 22) rfl).trans z1909
            have z1938 := (rv_c I1902 J1929 (I1902.up h_o0) (k := 24) rfl).trans z1910
            have z1939 := (ra_call I1902 J1929 (I1902.up h_o0) (k := 5) rfl rfl rfl 44).trans z1911
            have z1940 := (ra_call I1902 J1929 (I1902.up h_o0) (k := 6) rfl rfl rfl 44).trans z1912
            have z1941 := (ra_call I1902 J1929 (I1902.up h_o0) (k := 7) rfl rfl rfl ((880 + ra M0 o0 6 44).toNat)).trans z1913
            have z1942 := (ra_call I1902 J1929 (I1902.up h_o0) (k := 10) rfl rfl rfl ((880 + ra M0 o0 6 44).toNat)).trans z1914
            have z1943 := (ra_call I1902 J1929 (I1902.up h_o0) (k := 8) rfl rfl rfl ((880 + ra M0 o0 6 44).toNat)).trans z1915
            have E1944 : rE M0 M1926 o0 0 3 := E1916.trans f1933 (by decide) (yR.2 5 _ _ rfl 44).1 (by decide) (by decide)
            have K1945 : rK M0 M1926 o0 ((880 + ra M0 o0 6 44).toNat) := K1918.same (sA_c I1902 J1929 (I1902.up h_o0) (by decide))
            have K1946 : nN M1926 o0 := K1919.same (sA_c I1902 J1929 (I1902.up h_o0) (by decide)) (sF_c I1902 J1929 (I1902.up h_o0) (by decide))
            clear z1909 z1910 z1911 z1912 z1913 z1914 z1915
            have q1947 := J1929.keep t1907 (by decide) q1920
            have t1948 := J1929.up t1921
            have q1949 := J1929.keep t1907 (by decide) q1923
            have t1950 := J1929.up t1924
            refine mv_aload_n d_TrustDeskModel_readRule_151 rfl rfl ?_
            obtain ⟨a1952, q1951, t_a1952⟩ := tm_atR I1930 t1934 (k := 11) rfl
            refine tr_getK q1951 d_TrustDeskModel_readRule_152 f_TrustDeskModel_38_13 ?_
            refine mv_iload_n d_TrustDeskModel_readRule_155 rfl rfl ?_
            refine mv_aload_n d_TrustDeskModel_readRule_156 rfl rfl ?_
            obtain ⟨a1954, q1953, t_a1954⟩ := tm_atR I1930 t1934 (k := 5) rfl
            refine tr_getK q1953 d_TrustDeskModel_readRule_157 f_TrustDeskModel_20_13 ?_
            refine mv_bipush (v := 44) d_TrustDeskModel_readRule_160 (by decide) ?_
            refine tr_ialdR (o := o0) (k := 5) I1930 q1953 t_a1954 (by decide) d_TrustDeskModel_readRule_162 (by unfold vp_in; decide) (fun v1955 e1956 => ?_)
            have := R1932.a (k := 5) rfl (44 : Int32).toNatClampNeg
            have : v1955.toInt = ra M1926 o0 5 44 := e1956
            have : v1955.toInt = _ := Eq.trans e1956 z1939
            refine tr_iastR (k := 11) I1930 R1932 (I1930.up h_o0) q1951 t_a1952 (by decide) (by decide) (fun lo hi h => by cases h; have := R1932.1 15 _ _ rfl; have := R1932.1 16 _ _ rfl; have := R1932.1 19 _ _ rfl; exact ⟨by show (0 : Int) ≤ v1955.toInt; omega, by show v1955.toInt ≤ (400 : Int); omega⟩) (Or.inl (by decide)) d_TrustDeskModel_readRule_163 (vp_in_iff.mpr (by have := R1932.1 15 _ _ rfl; have := R1932.1 16 _ _ rfl; have := R1932.1 19 _ _ rfl; omega)) (fun M1957 I1958 K1959 R1960 E1961 A1962 V1963 => ?_)
            have z1964 := (V1963 15)
            have z1965 := (V1963 16)
            have z1966 := (V1963 17)
            have z1967 := (V1963 19)
            have z1968 := (V1963 22).trans z1937
            have z1969 := (V1963 24).trans z1938
            have z1970 := (A1962 5 (by decide) rfl 44).trans z1939
            have z1971 := (A1962 6 (by decide) rfl 44).trans z1940
            have z1972 := (A1962 7 (by decide) rfl ((880 + ra M0 o0 6 44).toNat)).trans z1941
            have z1973 := (A1962 10 (by decide) rfl ((880 + ra M0 o0 6 44).toNat)).trans z1942
            have z1974 := (A1962 8 (by decide) rfl ((880 + ra M0 o0 6 44).toNat)).trans z1943
            have E1975 : rE M0 M1957 o0 0 3 := E1944.same (fun k _ _ => V1963 k) (fun k h1 h2 => A1962 k (by omega) (by rcases (show k = 4 ∨ k = 5 by omega) with rfl | rfl <;> rfl))
            have h1976 : (880 + ra M0 o0 6 44).toNat = v42.toNatClampNeg := by have := mz_nat9 (i := v42) (by have := R1932.1 15 _ _ rfl; have := R1932.1 16 _ _ rfl; have := R1932.1 19 _ _ rfl; omega); have := R1932.1 15 _ _ rfl; have := R1932.1 16 _ _ rfl; have := R1932.1 19 _ _ rfl; omega
            have z1977 : ra M1957 o0 11 ((880 + ra M0 o0 6 44).toNat) = v1955.toInt := (E1961 _).trans (if_pos h1976)
            have K1978 : rK M0 M1957 o0 ((880 + ra M0 o0 6 44).toNat) := K1945.st A1962 E1961 (by have := mz_nat9 (i := v42) (by have := R1932.1 15 _ _ rfl; have := R1932.1 16 _ _ rfl; have := R1932.1 19 _ _ rfl; omega); have := R1932.1 15 _ _ rfl; have := R1932.1 16 _ _ rfl; have := R1932.1 19 _ _ rfl; omega)
            have K1979 : nN M1957 o0 := K1946.same (sA_a A1962 (by decide)) (sF_a V1963)
            have F1980 : rE M1957 M1957 o0 0 0 := rE.rf E1975.1
            have : ra M1957 o0 5 44 = v1955.toInt := by omega
            clear z1937 z1938 z1939 z1940 z1941 z1942 z1943
            refine mv_aload_n d_TrustDeskModel_readRule_164 rfl rfl ?_
            obtain ⟨_, b1987, -⟩ := I1958.1 _ _ t1934
            refine mv_callV (kc' := 0) (ks' := 0) (As := []) (st9 := [.ref o0]) d_TrustDeskModel_readRule_165 lV_TrustDeskModel_302 b1987 rfl (tc_TrustDeskModel_cond_q5_x (d := d) (x9 := x9) (o0 := o0) t1934 R1960 E1975.1 (E1975.s yS (by decide)) (Classical.byCases (fun w9 : rv M1957 o0 19 = 0 => by have u91 : rv M1926 o0 19 = 0 := (by omega); have := f1935.o u91; have := f1936.o u91; have u92 : rv M36 o0 19 = 0 := (by omega); have := f51.o u92; have := f52.o u92; omega) (fun w9 : ¬ rv M1957 o0 19 = 0 => by omega)) I1958.start) rfl (Nat.le_of_ble_eq_true rfl) (Nat.le_of_ble_eq_true rfl) (Nat.le_of_ble_eq_true rfl) (hst := rfl) (fun b1981r M1982 n1983 b1981 => ?_)
            obtain ⟨T1984, J1985, rfl, R1988, f1989, f1990⟩ := b1981
            have I1986 := I1958.call J1985 (tm_sub (by decide)) (Or.inl rfl)
            have t1991 := J1985.up t1934
            have := f1989.2.1
            have f1992 := Im.i f1989.w.2
            have f1993 := Im.i f1989.w2
            replace f1990 := Im.i f1990
            have z1994 := (rv_c I1958 J1985 (I1958.up h_o0) (k := 24) rfl).trans z1969
            have z1995 := (ra_call I1958 J1985 (I1958.up h_o0) (k := 6) rfl rfl rfl 44).trans z1971
            have z1996 := (ra_call I1958 J1985 (I1958.up h_o0) (k := 7) rfl rfl rfl ((880 + ra M0 o0 6 44).toNat)).trans z1972
            have z1997 := (ra_call I1958 J1985 (I1958.up h_o0) (k := 10) rfl rfl rfl ((880 + ra M0 o0 6 44).toNat)).trans z1973
            have z1998 := (ra_call I1958 J1985 (I1958.up h_o0) (k := 8) rfl rfl rfl ((880 + ra M0 o0 6 44).toNat)).trans z1974
            have z1999 := (ra_call I1958 J1985 (I1958.up h_o0) (k := 11) rfl rfl rfl ((880 + ra M0 o0 6 44).toNat)).trans z1977
            have E2000 : rE M0 M1982 o0 1 3 := E1975.trans f1989 (by decide) (yR.2 5 _ _ rfl 44).1 (by decide) (by decide)
            have K2001 : rK M0 M1982 o0 ((880 + ra M0 o0 6 44).toNat) := K1978.same (sA_c I1958 J1985 (I1958.up h_o0) (by decide))
            have K2002 : nN M1982 o0 := K1979.same (sA_c I1958 J1985 (I1958.up h_o0) (by decide)) (sF_c I1958 J1985 (I1958.up h_o0) (by decide))
            have F2003 : rE M1957 M1982 o0 1 0 := F1980.trans f1989 (by decide) (R1960.2 5 _ _ rfl 44).1 (by decide) (by decide)
            clear z1969 z1971 z1972 z1973 z1974 z1977
            have q2004 := J1985.keep t1934 (by decide) (K1959 _ 13 6 _ q1947)
            have t2005 := J1985.up t1948
            have q2006 := J1985.keep t1934 (by decide) (K1959 _ 13 8 _ q1949)
            have t2007 := J1985.up t1950
            have q2008 := J1985.keep t1934 (by decide) (K1959 _ 13 11 _ q1951)
            have t2009 := J1985.up t_a1952
            have q2010 := J1985.keep t1934 (by decide) (K1959 _ 13 5 _ q1953)
            have t2011 := J1985.up t_a1954
            refine mv_goto (tgt := 251) d_TrustDeskModel_readRule_168 (by decide) ?_
            refine mv_aload_n d_TrustDeskModel_readRule_251 rfl rfl ?_
            refine mv_bipush (v := 59) d_TrustDeskModel_readRule_252 (by decide) ?_
            obtain ⟨_, b2018, -⟩ := I1986.1 _ _ t1991
            have : (59 : Int32).toInt = 59 := by decide
            refine mv_callV (kc' := 0) (ks' := 0) (As := [.int 59]) (st9 := [.int 59, .ref o0]) d_TrustDeskModel_readRule_254 lV_TrustDeskModel_291 b2018 rfl (tc_TrustDeskModel_wantSign_x (d := (d + 22)) (x9 := x9) (o0 := o0) (x1 := 59) t1991 R1988 E2000.1 (E2000.s yS (by decide)) I1986.start) rfl (Nat.le_of_ble_eq_true rfl) (Nat.le_of_ble_eq_true rfl) (Nat.le_of_ble_eq_true rfl) (hst := rfl) (fun b2012r M2013 n2014 b2012 => ?_)
            obtain ⟨T2015, J2016, rfl, R2019, f2020⟩ := b2012
            have I2017 := I1986.call J2016 (tm_sub (by decide)) (Or.inl rfl)
            have t2021 := J2016.up t1991
            have := f2020.2.1
            have f2022 := Im.i f2020.w.2
            have f2023 := Im.i f2020.w2
            have z2024 := (rv_c I1986 J2016 (I1986.up h_o0) (k := 22) rfl)
            have z2025 := (rv_c I1986 J2016 (I1986.up h_o0) (k := 24) rfl).trans z1994
            have z2026 := (ra_call I1986 J2016 (I1986.up h_o0) (k := 5) rfl rfl rfl 44)
            have z2027 := (ra_call I1986 J2016 (I1986.up h_o0) (k := 6) rfl rfl rfl 44).trans z1995
            have z2028 := (ra_call I1986 J2016 (I1986.up h_o0) (k := 7) rfl rfl rfl ((880 + ra M0 o0 6 44).toNat)).trans z1996
            have z2029 := (ra_call I1986 J2016 (I1986.up h_o0) (k := 10) rfl rfl rfl ((880 + ra M0 o0 6 44).toNat)).trans z1997
            have z2030 := (ra_call I1986 J2016 (I1986.up h_o0) (k := 8) rfl rfl rfl ((880 + ra M0 o0 6 44).toNat)).trans z1998
            have z2031 := (ra_call I1986 J2016 (I1986.up h_o0) (k := 11) rfl rfl rfl ((880 + ra M0 o0 6 44).toNat)).trans z1999
            have E2032 : rE M0 M2013 o0 1 4 := E2000.trans f2020 (by decide) (yR.2 5 _ _ rfl 44).1 (by decide) (by decide)
            have K2033 : rK M0 M2013 o0 ((880 + ra M0 o0 6 44).toNat) := K2001.same (sA_c I1986 J2016 (I1986.up h_o0) (by decide))
            have K2034 : nN M2013 o0 := K2002.same (sA_c I1986 J2016 (I1986.up h_o0) (by decide)) (sF_c I1986 J2016 (I1986.up h_o0) (by decide))
            have F2035 : rE M1957 M2013 o0 1 1 := F2003.trans f2020 (by decide) (R1960.2 5 _ _ rfl 44).1 (by decide) (by decide)
            clear z1994 z1995 z1996 z1997 z1998 z1999
            have q2036 := J2016.keep t1991 (by decide) q2004
            have t2037 := J2016.up t2005
            have q2038 := J2016.keep t1991 (by decide) q2006
            have t2039 := J2016.up t2007
            have q2040 := J2016.keep t1991 (by decide) q2008
            have t2041 := J2016.up t2009
            have q2042 := J2016.keep t1991 (by decide) q2010
            have t2043 := J2016.up t2011
            refine mv_aload_n d_TrustDeskModel_readRule_257 rfl rfl ?_
            obtain ⟨a2045, q2044, t_a2045⟩ := tm_atR I2017 t2021 (k := 12) rfl
            refine tr_getK q2044 d_TrustDeskModel_readRule_258 f_TrustDeskModel_41_13 ?_
            refine mv_iload_n d_TrustDeskModel_readRule_261 rfl rfl ?_
            refine mv_aload_n d_TrustDeskModel_readRule_262 rfl rfl ?_
            refine tr_getK (k := 5) q2042 d_TrustDeskModel_readRule_263 f_TrustDeskModel_20_13 ?_
            refine mv_bipush (v := 44) d_TrustDeskModel_readRule_266 (by decide) ?_
            refine tr_ialdR (o := o0) (k := 5) I2017 q2042 t2043 (by decide) d_TrustDeskModel_readRule_268 (by unfold vp_in; decide) (fun v2046 e2047 => ?_)
            have := R2019.a (k := 5) rfl (44 : Int32).toNatClampNeg
            have : v2046.toInt = ra M2013 o0 5 44 := e2047
            have : v2046.toInt = _ := Eq.trans e2047 z2026
            refine tr_iastR (k := 12) I2017 R2019 (I2017.up h_o0) q2044 t_a2045 (by decide) (by decide) (fun lo hi h => by cases h; have := R2019.1 15 _ _ rfl; have := R2019.1 16 _ _ rfl; have := R2019.1 19 _ _ rfl; exact ⟨by show (0 : Int) ≤ v2046.toInt; omega, by show v2046.toInt ≤ (400 : Int); omega⟩) (Or.inl (by decide)) d_TrustDeskModel_readRule_269 (vp_in_iff.mpr (by have := R2019.1 15 _ _ rfl; have := R2019.1 16 _ _ rfl; have := R2019.1 19 _ _ rfl; omega)) (fun M2048 I2049 K2050 R2051 E2052 A2053 V2054 => ?_)
            have z2055 := (V2054 15)
            have z2056 := (V2054 16)
            have z2057 := (V2054 17)
            have z2058 := (V2054 19)
            have z2059 := (V2054 22).trans z2024
            have z2060 := (V2054 24).trans z2025
            have z2061 := (A2053 5 (by decide) rfl 44).trans z2026
            have z2062 := (A2053 6 (by decide) rfl 44).trans z2027
            have z2063 := (A2053 7 (by decide) rfl ((880 + ra M0 o0 6 44).toNat)).trans z2028
            have z2064 := (A2053 10 (by decide) rfl ((880 + ra M0 o0 6 44).toNat)).trans z2029
            have z2065 := (A2053 8 (by decide) rfl ((880 + ra M0 o0 6 44).toNat)).trans z2030
            have z2066 := (A2053 11 (by decide) rfl ((880 + ra M0 o0 6 44).toNat)).trans z2031
            have E2067 : rE M0 M2048 o0 1 4 := E2032.same (fun k _ _ => V2054 k) (fun k h1 h2 => A2053 k (by omega) (by rcases (show k = 4 ∨ k = 5 by omega) with rfl | rfl <;> rfl))
            have h2068 : (880 + ra M0 o0 6 44).toNat = v42.toNatClampNeg := by have := mz_nat9 (i := v42) (by have := R2019.1 15 _ _ rfl; have := R2019.1 16 _ _ rfl; have := R2019.1 19 _ _ rfl; omega); have := R2019.1 15 _ _ rfl; have := R2019.1 16 _ _ rfl; have := R2019.1 19 _ _ rfl; omega
            have z2069 : ra M2048 o0 12 ((880 + ra M0 o0 6 44).toNat) = v2046.toInt := (E2052 _).trans (if_pos h2068)
            have K2070 : rK M0 M2048 o0 ((880 + ra M0 o0 6 44).toNat) := K2033.st A2053 E2052 (by have := mz_nat9 (i := v42) (by have := R2019.1 15 _ _ rfl; have := R2019.1 16 _ _ rfl; have := R2019.1 19 _ _ rfl; omega); have := R2019.1 15 _ _ rfl; have := R2019.1 16 _ _ rfl; have := R2019.1 19 _ _ rfl; omega)
            have K2071 : nN M2048 o0 := K2034.same (sA_a A2053 (by decide)) (sF_a V2054)
            have F2072 : rE M1957 M2048 o0 1 1 := F2035.same (fun k _ _ => V2054 k) (fun k h1 h2 => A2053 k (by omega) (by rcases (show k = 4 ∨ k = 5 by omega) with rfl | rfl <;> rfl))
            clear z2024 z2025 z2026 z2027 z2028 z2029 z2030 z2031
            exact mv_vret d_TrustDeskModel_readRule_270 rfl ⟨_, I2049, rfl, R2051, (rW.of E2067.1 (E2067.s yS (by decide)) (fun w9 => by have u91 : rv M2013 o0 19 = 0 := (by omega); have := f2022.o u91; have := f2023.o u91; have u92 : rv M1982 o0 19 = 0 := (by omega); have := f1992.o u92; have := f1993.o u92; have := f1990.o u92; have u93 : rv M1926 o0 19 = 0 := (by omega); have := f1935.o u93; have := f1936.o u93; have u94 : rv M36 o0 19 = 0 := (by omega); have := f51.o u94; have := f52.o u94; exact rG.step yG yR E2067 w9 K2070 (by have := yR.2 6 _ _ rfl 44; omega) (by have := R2051.1 15 _ _ rfl; have := R2051.1 16 _ _ rfl; have := R2051.1 19 _ _ rfl; omega) (by have := R2051.1 15 _ _ rfl; have := R2051.1 16 _ _ rfl; have := R2051.1 19 _ _ rfl; omega) (fun _ => rowN.of E1975 F2072 w9 (by decide) (by decide) (yR.2 5 _ _ rfl 44).1 (by have := R2051.1 15 _ _ rfl; have := R2051.1 16 _ _ rfl; have := R2051.1 19 _ _ rfl; omega) (by have := R2051.1 15 _ _ rfl; have := R2051.1 16 _ _ rfl; have := R2051.1 19 _ _ rfl; omega) (by have := R2051.1 15 _ _ rfl; have := R2051.1 16 _ _ rfl; have := R2051.1 19 _ _ rfl; omega)) (fun h9 => (by have := R2051.1 15 _ _ rfl; have := R2051.1 16 _ _ rfl; have := R2051.1 19 _ _ rfl; omega)) (by have := R2051.1 15 _ _ rfl; have := R2051.1 16 _ _ rfl; have := R2051.1 19 _ _ rfl; omega) K2071)), (rO.of E2067 K2070 (by have := yR.2 6 _ _ rfl 44; omega)), ⟨E2067.2.1, fun w9 => by skip; have := E2067.w2 w9; omega⟩, (fun w9 => by have u91 : rv M2013 o0 19 = 0 := (by omega); have := f2022.o u91; have := f2023.o u91; have u92 : rv M1982 o0 19 = 0 := (by omega); have := f1992.o u92; have := f1993.o u92; have := f1990.o u92; have u93 : rv M1926 o0 19 = 0 := (by omega); have := f1935.o u93; have := f1936.o u93; have u94 : rv M36 o0 19 = 0 := (by omega); have := f51.o u94; have := f52.o u94; omega)⟩
    · refine mv_aload_n d_TrustDeskModel_readRule_30 rfl rfl ?_
      refine mv_iconst (v := 4) d_TrustDeskModel_readRule_31 (by decide) ?_
      obtain ⟨_, b2079, -⟩ := I8.1 _ _ t13
      have : (4 : Int32).toInt = 4 := by decide
      refine mv_callV (kc' := 0) (ks' := 0) (As := [.int 4]) (st9 := [.int 4, .ref o0]) d_TrustDeskModel_readRule_32 lV_TrustDeskModel_240 b2079 rfl (tc_TrustDeskModel_fails_x (d := (d + 24)) (x9 := x9) (o0 := o0) (x1 := 4) t13 R11 (by decide) I8.start) rfl (Nat.le_of_ble_eq_true rfl) (Nat.le_of_ble_eq_true rfl) (Nat.le_of_ble_eq_true rfl) (hst := rfl) (fun b2073r M2074 n2075 b2073 => ?_)
      obtain ⟨T2076, J2077, rfl, R2080, f2081⟩ := b2073
      have I2078 := I8.call J2077 (tm_sub (by decide)) (Or.inl rfl)
      have t2082 := J2077.up t13
      have z2083 := (rv_c I8 J2077 (I8.up h_o0) (k := 15) rfl).trans z14
      have z2084 := (rv_c I8 J2077 (I8.up h_o0) (k := 16) rfl).trans z15
      have z2085 := (rv_c I8 J2077 (I8.up h_o0) (k := 17) rfl).trans z16
      have z2086 := (rv_c I8 J2077 (I8.up h_o0) (k := 22) rfl).trans z18
      have z2087 := (rv_c I8 J2077 (I8.up h_o0) (k := 24) rfl).trans z19
      have z2088 := (ra_call I8 J2077 (I8.up h_o0) (k := 5) rfl rfl rfl 44).trans z20
      have z2089 := (ra_call I8 J2077 (I8.up h_o0) (k := 6) rfl rfl rfl 44).trans z21
      have E2090 : rE M0 M2074 o0 0 0 := E22.fails (rE_hv I8 J2077 (I8.up h_o0) 15 18 (by decide)) (rE_ha I8 J2077 (I8.up h_o0) (by decide)) f2081 0 0
      have K2091 : rK M0 M2074 o0 ((880 + ra M0 o0 6 44).toNat) := K23.same (sA_c I8 J2077 (I8.up h_o0) (by decide))
      have K2092 : nN M2074 o0 := K24.same (sA_c I8 J2077 (I8.up h_o0) (by decide)) (sF_c I8 J2077 (I8.up h_o0) (by decide))
      clear z14 z15 z16 z18 z19 z20 z21
      have q2093 := J2077.keep t13 (by decide) q26
      have t2094 := J2077.up t_a27
      refine mv_aload_n d_TrustDeskModel_readRule_35 rfl rfl ?_
      obtain ⟨_, b2095, -⟩ := I2078.1 _ _ t2082
      refine mv_callV (kc1 := 0) (ks1 := 0) (kc' := 0) (ks' := 0) (As := []) (st9 := [.ref o0]) d_TrustDeskModel_readRule_36 lV_TrustDeskModel_230 b2095 rfl (mj_enter (by decide) (Nat.le_of_ble_eq_true rfl) ?_) rfl (Nat.le_of_ble_eq_true rfl) (Nat.le_of_ble_eq_true rfl) (Nat.le_of_ble_eq_true rfl) (hst := rfl) (fun _ _ _ h => h)
      refine mv_aload_n d_TrustDeskModel_isWell_0 rfl rfl ?_
      obtain ⟨v2097, q2096⟩ := tm_atI I2078 t2082 (k := 19) rfl
      refine tr_getK q2096 d_TrustDeskModel_isWell_1 f_TrustDeskModel_224_13 ?_
      have := R2080.f (k := 19) q2096 rfl
      have := tm_rv q2096
      refine mv_if_neZ (tgt := 11) (a := v2097.toInt) d_TrustDeskModel_isWell_4 (by decide) rfl (fun b2098 => ?_) (fun b2098 => ?_)
      · refine mv_iconst (v := 0) d_TrustDeskModel_isWell_11 (by decide) ?_
        refine mv_iret d_TrustDeskModel_isWell_12 rfl (by decide) ?_
        refine mv_if_ne_f (tgt := 43) d_TrustDeskModel_readRule_39 (by decide) (by decide) ?_
        exact mv_vret d_TrustDeskModel_readRule_42 rfl ⟨_, I2078, rfl, R2080, (rW.of E2090.1 (fun h9 => by exfalso; skip; have := R2080.1 15 _ _ rfl; have := R2080.1 16 _ _ rfl; have := R2080.1 19 _ _ rfl; omega) (fun h9 => by exfalso; skip; have := R2080.1 15 _ _ rfl; have := R2080.1 16 _ _ rfl; have := R2080.1 19 _ _ rfl; omega)), (rO.of E2090 K2091 (by have := yR.2 6 _ _ rfl 44; omega)), ⟨E2090.2.1, fun w9 => by skip; have := E2090.w2 w9; omega⟩, (fun w9 => by skip; omega)⟩
      · exfalso
        have := R2080.1 15 _ _ rfl; have := R2080.1 16 _ _ rfl; have := R2080.1 19 _ _ rfl; omega
  · refine mv_aload_n d_TrustDeskModel_readRule_10 rfl rfl ?_
    refine mv_iconst (v := 1) d_TrustDeskModel_readRule_11 (by decide) ?_
    obtain ⟨_, b2105, -⟩ := I8.1 _ _ t13
    have : (1 : Int32).toInt = 1 := by decide
    refine mv_callV (kc' := 0) (ks' := 0) (As := [.int 1]) (st9 := [.int 1, .ref o0]) d_TrustDeskModel_readRule_12 lV_TrustDeskModel_240 b2105 rfl (tc_TrustDeskModel_fails_x (d := (d + 24)) (x9 := x9) (o0 := o0) (x1 := 1) t13 R11 (by decide) I8.start) rfl (Nat.le_of_ble_eq_true rfl) (Nat.le_of_ble_eq_true rfl) (Nat.le_of_ble_eq_true rfl) (hst := rfl) (fun b2099r M2100 n2101 b2099 => ?_)
    obtain ⟨T2102, J2103, rfl, R2106, f2107⟩ := b2099
    have I2104 := I8.call J2103 (tm_sub (by decide)) (Or.inl rfl)
    have t2108 := J2103.up t13
    have z2109 := (rv_c I8 J2103 (I8.up h_o0) (k := 15) rfl).trans z14
    have z2110 := (rv_c I8 J2103 (I8.up h_o0) (k := 16) rfl).trans z15
    have z2111 := (rv_c I8 J2103 (I8.up h_o0) (k := 17) rfl).trans z16
    have z2112 := (rv_c I8 J2103 (I8.up h_o0) (k := 22) rfl).trans z18
    have z2113 := (rv_c I8 J2103 (I8.up h_o0) (k := 24) rfl).trans z19
    have z2114 := (ra_call I8 J2103 (I8.up h_o0) (k := 5) rfl rfl rfl 44).trans z20
    have z2115 := (ra_call I8 J2103 (I8.up h_o0) (k := 6) rfl rfl rfl 44).trans z21
    have E2116 : rE M0 M2100 o0 0 0 := E22.fails (rE_hv I8 J2103 (I8.up h_o0) 15 18 (by decide)) (rE_ha I8 J2103 (I8.up h_o0) (by decide)) f2107 0 0
    have K2117 : rK M0 M2100 o0 ((880 + ra M0 o0 6 44).toNat) := K23.same (sA_c I8 J2103 (I8.up h_o0) (by decide))
    have K2118 : nN M2100 o0 := K24.same (sA_c I8 J2103 (I8.up h_o0) (by decide)) (sF_c I8 J2103 (I8.up h_o0) (by decide))
    clear z14 z15 z16 z18 z19 z20 z21
    refine mv_goto (tgt := 35) d_TrustDeskModel_readRule_15 (by decide) ?_
    refine mv_aload_n d_TrustDeskModel_readRule_35 rfl rfl ?_
    obtain ⟨_, b2119, -⟩ := I2104.1 _ _ t2108
    refine mv_callV (kc1 := 0) (ks1 := 0) (kc' := 0) (ks' := 0) (As := []) (st9 := [.ref o0]) d_TrustDeskModel_readRule_36 lV_TrustDeskModel_230 b2119 rfl (mj_enter (by decide) (Nat.le_of_ble_eq_true rfl) ?_) rfl (Nat.le_of_ble_eq_true rfl) (Nat.le_of_ble_eq_true rfl) (Nat.le_of_ble_eq_true rfl) (hst := rfl) (fun _ _ _ h => h)
    refine mv_aload_n d_TrustDeskModel_isWell_0 rfl rfl ?_
    obtain ⟨v2121, q2120⟩ := tm_atI I2104 t2108 (k := 19) rfl
    refine tr_getK q2120 d_TrustDeskModel_isWell_1 f_TrustDeskModel_224_13 ?_
    have := R2106.f (k := 19) q2120 rfl
    have := tm_rv q2120
    refine mv_if_neZ (tgt := 11) (a := v2121.toInt) d_TrustDeskModel_isWell_4 (by decide) rfl (fun b2122 => ?_) (fun b2122 => ?_)
    · refine mv_iconst (v := 0) d_TrustDeskModel_isWell_11 (by decide) ?_
      refine mv_iret d_TrustDeskModel_isWell_12 rfl (by decide) ?_
      refine mv_if_ne_f (tgt := 43) d_TrustDeskModel_readRule_39 (by decide) (by decide) ?_
      exact mv_vret d_TrustDeskModel_readRule_42 rfl ⟨_, I2104, rfl, R2106, (rW.of E2116.1 (fun h9 => by exfalso; skip; have := R2106.1 15 _ _ rfl; have := R2106.1 16 _ _ rfl; have := R2106.1 19 _ _ rfl; omega) (fun h9 => by exfalso; skip; have := R2106.1 15 _ _ rfl; have := R2106.1 16 _ _ rfl; have := R2106.1 19 _ _ rfl; omega)), (rO.of E2116 K2117 (by have := yR.2 6 _ _ rfl 44; omega)), ⟨E2116.2.1, fun w9 => by skip; have := E2116.w2 w9; omega⟩, (fun w9 => by skip; omega)⟩
    · exfalso
      have := R2106.1 15 _ _ rfl; have := R2106.1 16 _ _ rfl; have := R2106.1 19 _ _ rfl; omega
