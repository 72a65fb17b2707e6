section PCL
variable {b : Nat → Int} {n c : Nat} {na : Int} {N : List (Nat × Nat)} {s : p_S}
theorem p_cl_nz (h : s.1 ≠ 0) : p_cl b n na (c, N, s) = (N, s) := if_neg h
theorem p_cl_1 (h : s.1 = 0) (h1 : p_wi b n s.2.2 ≠ 26) (h2 : p_wi b n s.2.2 ≠ 24) (h3 : p_wi b n s.2.2 ≠ 25) : p_cl b n na (c, N, s) = (N, p_fl b n 1 s) :=
  (if_pos h).trans (if_neg (fun h9 : p_wi b n s.2.2 = 26 ∨ p_wi b n s.2.2 = 24 ∨ p_wi b n s.2.2 = 25 => by omega))
theorem p_cl_4 (h : s.1 = 0) (h1 : p_wi b n s.2.2 = 26 ∨ p_wi b n s.2.2 = 24 ∨ p_wi b n s.2.2 = 25) (h2 : 12 ≤ c ∨ (p_wi b n s.2.2 = 26 ∧ 6 ≤ N.length)) : p_cl b n na (c, N, s) = (N, p_fl b n 4 s) :=
  (if_pos h).trans ((if_pos h1).trans (if_pos h2))
theorem p_cl_e (h : s.1 = 0) (h1 : p_wi b n s.2.2 = 26) (h2 : ¬ 12 ≤ c) (h3 : ¬ 6 ≤ N.length) : p_cl b n na (c, N, s) = (N ++ [(p_st b n (s.2.2 + 1), p_sp b n (s.2.2 + 1))], p_sg b n 59 (p_en1 b n na N (p_nx s))) :=
  (if_pos h).trans ((if_pos (Or.inl h1)).trans ((if_neg (fun h9 : 12 ≤ c ∨ (p_wi b n s.2.2 = 26 ∧ 6 ≤ N.length) => by omega)).trans (if_pos h1)))
theorem p_cl_m (h : s.1 = 0) (h1 : p_wi b n s.2.2 = 24) (h2 : ¬ 12 ≤ c) : p_cl b n na (c, N, s) = (N, p_sg b n 59 (p_mar b n (p_nx s))) :=
  (if_pos h).trans ((if_pos (Or.inr (Or.inl h1))).trans ((if_neg (fun h9 : 12 ≤ c ∨ (p_wi b n s.2.2 = 26 ∧ 6 ≤ N.length) => by omega)).trans ((if_neg (fun h9 : p_wi b n s.2.2 = 26 => by omega)).trans (if_pos h1))))
theorem p_cl_t (h : s.1 = 0) (h1 : p_wi b n s.2.2 = 25) (h2 : ¬ 12 ≤ c) : p_cl b n na (c, N, s) = (N, p_sg b n 59 (p_tru b n (p_nx s))) :=
  (if_pos h).trans ((if_pos (Or.inr (Or.inr h1))).trans ((if_neg (fun h9 : 12 ≤ c ∨ (p_wi b n s.2.2 = 26 ∧ 6 ≤ N.length) => by omega)).trans ((if_neg (fun h9 : p_wi b n s.2.2 = 26 => by omega)).trans (if_neg (fun h9 : p_wi b n s.2.2 = 24 => by omega)))))
theorem p_num_hi {lo v w : Int} (h : s.1 = 0 → v = w) : p_num b n lo w s = p_num b n lo v s := by
  by_cases h1 : s.1 = 0
  · rw [h h1]
  · exact (p_num_Z _ h1).trans (p_num_Z _ h1).symm
end PCL
abbrev kY_TrustDeskModel_readClause : mj_Y := (⟨"TrustDeskModel", "readClause", "()V"⟩, prog_14_method_38_code, 4, (Option.none : Option Jvm.ClassFile.FieldType))
theorem d_TrustDeskModel_readClause_0 : decode kY_TrustDeskModel_readClause.2.1 0 = .ok (.aload_n 0, 1) := by decide +kernel
theorem d_TrustDeskModel_readClause_1 : decode kY_TrustDeskModel_readClause.2.1 1 = .ok (.ldc_w 336, 3) := by decide +kernel
theorem d_TrustDeskModel_readClause_4 : decode kY_TrustDeskModel_readClause.2.1 4 = .ok (.invokevirtual 244, 3) := by decide +kernel
def w_TrustDeskModel_isWord_s1_42_x : List Nat := []
set_option maxHeartbeats 100000000 in theorem tc_TrustDeskModel_isWord_s1_42_x {g : mj_G} {l : Launch} {d : Nat} {T0 : tm_H} {M0 : mj_M} {n0 x9 : Nat} {o0 : Nat} (h_o0 : T0 o0 = some (0, 13, 0)) (yR : rI M0 o0) (I0 : tm_I tm_FT (tm_in w_TrustDeskModel_isWord_s1_42_x) x9 T0 M0 n0 T0 M0 n0) : mj_Met g l kY_TrustDeskModel_isWord (d + 4) [.ref o0, .ref 42] M0 n0 0 0 (tm_Q tm_FT (tm_in w_TrustDeskModel_isWord_s1_42_x) x9 T0 M0 n0 (fun r _ M => ∃ v : Int32, r = some (.int v) ∧ 0 ≤ v.toInt ∧ v.toInt ≤ 1 ∧ rI M o0 ∧ (v.toInt = 1 → rv M0 o0 17 = 3) ∧ (v.toInt = 1 → rwE M0 o0) ∧ (v.toInt = 0 → ¬ rwE M0 o0))) := by
  refine mj_enter (by decide) (Nat.le_of_ble_eq_true rfl) ?_
  refine mv_aload_n d_TrustDeskModel_isWord_0 rfl rfl ?_
  obtain ⟨v2, q1⟩ := tm_atI I0 h_o0 (k := 17) rfl
  refine tr_getK q1 d_TrustDeskModel_isWord_1 f_TrustDeskModel_198_13 ?_
  have := tm_rv q1
  refine mv_iconst (v := 3) d_TrustDeskModel_isWord_4 (by decide) ?_
  have := mz_hi v2
  refine mv_icmp_neZ (tgt := 24) (a := v2.toInt) (b := 3) d_TrustDeskModel_isWord_5 (by decide) rfl (by decide) (fun b3 => ?_) (fun b3 => ?_)
  · refine mv_iconst (v := 0) d_TrustDeskModel_isWord_24 (by decide) ?_
    exact mv_iret d_TrustDeskModel_isWord_25 rfl (by decide) ⟨_, I0, _, rfl, by decide, by decide, yR, (fun h => absurd h (by decide)), (fun h => absurd h (by decide)), (fun _ h => by obtain ⟨h1, h2, h3, h4, h5⟩ := h; have := yR.1 15 _ _ rfl; have := yR.1 16 _ _ rfl; have := yR.1 19 _ _ rfl; omega)⟩
  · refine mv_aload_n d_TrustDeskModel_isWord_8 rfl rfl ?_
    obtain ⟨v5, q4⟩ := tm_atI I0 h_o0 (k := 15) rfl
    refine tr_getK q4 d_TrustDeskModel_isWord_9 f_TrustDeskModel_192_13 ?_
    have := yR.f (k := 15) q4 rfl
    have := tm_rv q4
    refine mv_aload_n d_TrustDeskModel_isWord_12 rfl rfl ?_
    obtain ⟨v7, q6⟩ := tm_atI I0 h_o0 (k := 16) rfl
    refine tr_getK q6 d_TrustDeskModel_isWord_13 f_TrustDeskModel_195_13 ?_
    have := yR.f (k := 16) q6 rfl
    have := tm_rv q6
    refine mv_isub d_TrustDeskModel_isWord_16 ?_
    refine mv_aload_n d_TrustDeskModel_isWord_17 rfl rfl ?_
    refine mv_slenK (i := 32) (v := 3) d_TrustDeskModel_isWord_18 lV_TrustDeskModel_214 (by decide) rfl (by decide) (Nat.le_of_ble_eq_true rfl) ?_
    have b8 : (v5 - v7 : Int32).toInt = (v5.toInt - v7.toInt) := mz_sub2 rfl rfl (by have := yR.1 15 _ _ rfl; have := yR.1 16 _ _ rfl; have := yR.1 19 _ _ rfl; omega) (by have := yR.1 15 _ _ rfl; have := yR.1 16 _ _ rfl; have := yR.1 19 _ _ rfl; omega)
    have := mz_hi (v5 - v7)
    refine mv_icmp_eqZ (tgt := 26) (a := (v5 - v7).toInt) (b := 3) d_TrustDeskModel_isWord_21 (by decide) rfl (by decide) (fun b9 => ?_) (fun b9 => ?_)
    · refine mv_iconst (v := 0) d_TrustDeskModel_isWord_26 (by decide) ?_
      refine mv_istore_n (lv' := [(2, .int 0), (0, .ref o0), (1, .ref 42)]) d_TrustDeskModel_isWord_27 rfl (by decide) rfl ?_
      refine mv_iload_n d_TrustDeskModel_isWord_28 rfl rfl ?_
      refine mv_aload_n d_TrustDeskModel_isWord_29 rfl rfl ?_
      refine mv_slenK (i := 32) (v := 3) d_TrustDeskModel_isWord_30 lV_TrustDeskModel_214 (by decide) rfl (by decide) (Nat.le_of_ble_eq_true rfl) ?_
      refine mv_icmp_ge_f (tgt := 63) d_TrustDeskModel_isWord_33 (by decide) (by decide) ?_
      refine mv_aload_n d_TrustDeskModel_isWord_36 rfl rfl ?_
      obtain ⟨a11, q10, t_a11⟩ := tm_atR I0 h_o0 (k := 13) rfl
      refine tr_getK q10 d_TrustDeskModel_isWord_37 f_TrustDeskModel_44_13 ?_
      refine mv_aload_n d_TrustDeskModel_isWord_40 rfl rfl ?_
      refine tr_getK (k := 16) q6 d_TrustDeskModel_isWord_41 f_TrustDeskModel_195_13 ?_
      refine mv_iload_n d_TrustDeskModel_isWord_44 rfl rfl ?_
      refine mv_iadd d_TrustDeskModel_isWord_45 ?_
      have b12 : (v7 + 0 : Int32).toInt = (v7.toInt + 0) := mz_add2 rfl (by decide) (by have := yR.1 15 _ _ rfl; have := yR.1 16 _ _ rfl; have := yR.1 19 _ _ rfl; omega) (by have := yR.1 15 _ _ rfl; have := yR.1 16 _ _ rfl; have := yR.1 19 _ _ rfl; omega)
      refine tr_baldR (o := o0) (k := 13) I0 q10 t_a11 (by decide) d_TrustDeskModel_isWord_46 (vp_in_iff.mpr (by have := yR.1 15 _ _ rfl; have := yR.1 16 _ _ rfl; have := yR.1 19 _ _ rfl; omega)) (fun v13 e14 => ?_)
      have := yR.a (k := 13) rfl ((v7 + 0) : Int32).toNatClampNeg
      have h15 : (v7 + 0).toNatClampNeg = (rv M0 o0 16).toNat + 0 := by have := mz_nat9 (i := (v7 + 0)) (by have := yR.1 15 _ _ rfl; have := yR.1 16 _ _ rfl; have := yR.1 19 _ _ rfl; omega); have := yR.1 15 _ _ rfl; have := yR.1 16 _ _ rfl; have := yR.1 19 _ _ rfl; omega
      have : v13.toInt = ra M0 o0 13 ((rv M0 o0 16).toNat + 0) := by rw [e14, h15]
      refine mv_aload_n d_TrustDeskModel_isWord_47 rfl rfl ?_
      refine mv_iload_n d_TrustDeskModel_isWord_48 rfl rfl ?_
      refine mv_schC (i := 32) (v := 101) d_TrustDeskModel_isWord_49 lV_TrustDeskModel_220 (by decide) rfl (by decide) (by decide) (Nat.le_of_ble_eq_true rfl) (by decide) ?_
      have := mz_hi v13
      refine mv_icmp_eqZ (tgt := 57) (a := v13.toInt) (b := 101) d_TrustDeskModel_isWord_52 (by decide) rfl (by decide) (fun b16 => ?_) (fun b16 => ?_)
      · refine mv_iinc (v := 1) (lv' := [(2, .int 1), (0, .ref o0), (1, .ref 42)]) d_TrustDeskModel_isWord_57 rfl (by decide) (by decide) rfl ?_
        refine mv_goto (tgt := 28) d_TrustDeskModel_isWord_60 (by decide) ?_
        refine mv_iload_n d_TrustDeskModel_isWord_28 rfl rfl ?_
        refine mv_aload_n d_TrustDeskModel_isWord_29 rfl rfl ?_
        refine mv_slenK (i := 32) (v := 3) d_TrustDeskModel_isWord_30 lV_TrustDeskModel_214 (by decide) rfl (by decide) (Nat.le_of_ble_eq_true rfl) ?_
        refine mv_icmp_ge_f (tgt := 63) d_TrustDeskModel_isWord_33 (by decide) (by decide) ?_
        refine mv_aload_n d_TrustDeskModel_isWord_36 rfl rfl ?_
        refine tr_getK (k := 13) q10 d_TrustDeskModel_isWord_37 f_TrustDeskModel_44_13 ?_
        refine mv_aload_n d_TrustDeskModel_isWord_40 rfl rfl ?_
        refine tr_getK (k := 16) q6 d_TrustDeskModel_isWord_41 f_TrustDeskModel_195_13 ?_
        refine mv_iload_n d_TrustDeskModel_isWord_44 rfl rfl ?_
        refine mv_iadd d_TrustDeskModel_isWord_45 ?_
        have b17 : (v7 + 1 : Int32).toInt = (v7.toInt + 1) := mz_add2 rfl (by decide) (by have := yR.1 15 _ _ rfl; have := yR.1 16 _ _ rfl; have := yR.1 19 _ _ rfl; omega) (by have := yR.1 15 _ _ rfl; have := yR.1 16 _ _ rfl; have := yR.1 19 _ _ rfl; omega)
        refine tr_baldR (o := o0) (k := 13) I0 q10 t_a11 (by decide) d_TrustDeskModel_isWord_46 (vp_in_iff.mpr (by have := yR.1 15 _ _ rfl; have := yR.1 16 _ _ rfl; have := yR.1 19 _ _ rfl; omega)) (fun v18 e19 => ?_)
        have := yR.a (k := 13) rfl ((v7 + 1) : Int32).toNatClampNeg
        have h20 : (v7 + 1).toNatClampNeg = (rv M0 o0 16).toNat + 1 := by have := mz_nat9 (i := (v7 + 1)) (by have := yR.1 15 _ _ rfl; have := yR.1 16 _ _ rfl; have := yR.1 19 _ _ rfl; omega); have := yR.1 15 _ _ rfl; have := yR.1 16 _ _ rfl; have := yR.1 19 _ _ rfl; omega
        have : v18.toInt = ra M0 o0 13 ((rv M0 o0 16).toNat + 1) := by rw [e19, h20]
        refine mv_aload_n d_TrustDeskModel_isWord_47 rfl rfl ?_
        refine mv_iload_n d_TrustDeskModel_isWord_48 rfl rfl ?_
        refine mv_schC (i := 32) (v := 110) d_TrustDeskModel_isWord_49 lV_TrustDeskModel_220 (by decide) rfl (by decide) (by decide) (Nat.le_of_ble_eq_true rfl) (by decide) ?_
        have := mz_hi v18
        refine mv_icmp_eqZ (tgt := 57) (a := v18.toInt) (b := 110) d_TrustDeskModel_isWord_52 (by decide) rfl (by decide) (fun b21 => ?_) (fun b21 => ?_)
        · refine mv_iinc (v := 2) (lv' := [(2, .int 2), (0, .ref o0), (1, .ref 42)]) d_TrustDeskModel_isWord_57 rfl (by decide) (by decide) rfl ?_
          refine mv_goto (tgt := 28) d_TrustDeskModel_isWord_60 (by decide) ?_
          refine mv_iload_n d_TrustDeskModel_isWord_28 rfl rfl ?_
          refine mv_aload_n d_TrustDeskModel_isWord_29 rfl rfl ?_
          refine mv_slenK (i := 32) (v := 3) d_TrustDeskModel_isWord_30 lV_TrustDeskModel_214 (by decide) rfl (by decide) (Nat.le_of_ble_eq_true rfl) ?_
          refine mv_icmp_ge_f (tgt := 63) d_TrustDeskModel_isWord_33 (by decide) (by decide) ?_
          refine mv_aload_n d_TrustDeskModel_isWord_36 rfl rfl ?_
          refine tr_getK (k := 13) q10 d_TrustDeskModel_isWord_37 f_TrustDeskModel_44_13 ?_
          refine mv_aload_n d_TrustDeskModel_isWord_40 rfl rfl ?_
          refine tr_getK (k := 16) q6 d_TrustDeskModel_isWord_41 f_TrustDeskModel_195_13 ?_
          refine mv_iload_n d_TrustDeskModel_isWord_44 rfl rfl ?_
          refine mv_iadd d_TrustDeskModel_isWord_45 ?_
          have b22 : (v7 + 2 : Int32).toInt = (v7.toInt + 2) := mz_add2 rfl (by decide) (by have := yR.1 15 _ _ rfl; have := yR.1 16 _ _ rfl; have := yR.1 19 _ _ rfl; omega) (by have := yR.1 15 _ _ rfl; have := yR.1 16 _ _ rfl; have := yR.1 19 _ _ rfl; omega)
          refine tr_baldR (o := o0) (k := 13) I0 q10 t_a11 (by decide) d_TrustDeskModel_isWord_46 (vp_in_iff.mpr (by have := yR.1 15 _ _ rfl; have := yR.1 16 _ _ rfl; have := yR.1 19 _ _ rfl; omega)) (fun v23 e24 => ?_)
          have := yR.a (k := 13) rfl ((v7 + 2) : Int32).toNatClampNeg
          have h25 : (v7 + 2).toNatClampNeg = (rv M0 o0 16).toNat + 2 := by have := mz_nat9 (i := (v7 + 2)) (by have := yR.1 15 _ _ rfl; have := yR.1 16 _ _ rfl; have := yR.1 19 _ _ rfl; omega); have := yR.1 15 _ _ rfl; have := yR.1 16 _ _ rfl; have := yR.1 19 _ _ rfl; omega
          have : v23.toInt = ra M0 o0 13 ((rv M0 o0 16).toNat + 2) := by rw [e24, h25]
          refine mv_aload_n d_TrustDeskModel_isWord_47 rfl rfl ?_
          refine mv_iload_n d_TrustDeskModel_isWord_48 rfl rfl ?_
          refine mv_schC (i := 32) (v := 100) d_TrustDeskModel_isWord_49 lV_TrustDeskModel_220 (by decide) rfl (by decide) (by decide) (Nat.le_of_ble_eq_true rfl) (by decide) ?_
          have := mz_hi v23
          refine mv_icmp_eqZ (tgt := 57) (a := v23.toInt) (b := 100) d_TrustDeskModel_isWord_52 (by decide) rfl (by decide) (fun b26 => ?_) (fun b26 => ?_)
          · refine mv_iinc (v := 3) (lv' := [(2, .int 3), (0, .ref o0), (1, .ref 42)]) d_TrustDeskModel_isWord_57 rfl (by decide) (by decide) rfl ?_
            refine mv_goto (tgt := 28) d_TrustDeskModel_isWord_60 (by decide) ?_
            refine mv_iload_n d_TrustDeskModel_isWord_28 rfl rfl ?_
            refine mv_aload_n d_TrustDeskModel_isWord_29 rfl rfl ?_
            refine mv_slenK (i := 32) (v := 3) d_TrustDeskModel_isWord_30 lV_TrustDeskModel_214 (by decide) rfl (by decide) (Nat.le_of_ble_eq_true rfl) ?_
            refine mv_icmp_ge_t (tgt := 63) d_TrustDeskModel_isWord_33 (by decide) (by decide) ?_
            refine mv_iconst (v := 1) d_TrustDeskModel_isWord_63 (by decide) ?_
            exact mv_iret d_TrustDeskModel_isWord_64 rfl (by decide) ⟨_, I0, _, rfl, by decide, by decide, yR, (fun _ => by have := yR.1 15 _ _ rfl; have := yR.1 16 _ _ rfl; have := yR.1 19 _ _ rfl; omega), (fun _ => ⟨by have := yR.1 15 _ _ rfl; have := yR.1 16 _ _ rfl; have := yR.1 19 _ _ rfl; omega, by have := yR.1 15 _ _ rfl; have := yR.1 16 _ _ rfl; have := yR.1 19 _ _ rfl; omega, by have := yR.1 15 _ _ rfl; have := yR.1 16 _ _ rfl; have := yR.1 19 _ _ rfl; omega, by have := yR.1 15 _ _ rfl; have := yR.1 16 _ _ rfl; have := yR.1 19 _ _ rfl; omega, by have := yR.1 15 _ _ rfl; have := yR.1 16 _ _ rfl; have := yR.1 19 _ _ rfl; omega⟩), (fun h => absurd h (by decide))⟩
          · refine mv_iconst (v := 0) d_TrustDeskModel_isWord_55 (by decide) ?_
            exact mv_iret d_TrustDeskModel_isWord_56 rfl (by decide) ⟨_, I0, _, rfl, by decide, by decide, yR, (fun h => absurd h (by decide)), (fun h => absurd h (by decide)), (fun _ h => by obtain ⟨h1, h2, h3, h4, h5⟩ := h; have := yR.1 15 _ _ rfl; have := yR.1 16 _ _ rfl; have := yR.1 19 _ _ rfl; omega)⟩
        · refine mv_iconst (v := 0) d_TrustDeskModel_isWord_55 (by decide) ?_
          exact mv_iret d_TrustDeskModel_isWord_56 rfl (by decide) ⟨_, I0, _, rfl, by decide, by decide, yR, (fun h => absurd h (by decide)), (fun h => absurd h (by decide)), (fun _ h => by obtain ⟨h1, h2, h3, h4, h5⟩ := h; have := yR.1 15 _ _ rfl; have := yR.1 16 _ _ rfl; have := yR.1 19 _ _ rfl; omega)⟩
      · refine mv_iconst (v := 0) d_TrustDeskModel_isWord_55 (by decide) ?_
        exact mv_iret d_TrustDeskModel_isWord_56 rfl (by decide) ⟨_, I0, _, rfl, by decide, by decide, yR, (fun h => absurd h (by decide)), (fun h => absurd h (by decide)), (fun _ h => by obtain ⟨h1, h2, h3, h4, h5⟩ := h; have := yR.1 15 _ _ rfl; have := yR.1 16 _ _ rfl; have := yR.1 19 _ _ rfl; omega)⟩
    · refine mv_iconst (v := 0) d_TrustDeskModel_isWord_24 (by decide) ?_
      exact mv_iret d_TrustDeskModel_isWord_25 rfl (by decide) ⟨_, I0, _, rfl, by decide, by decide, yR, (fun h => absurd h (by decide)), (fun h => absurd h (by decide)), (fun _ h => by obtain ⟨h1, h2, h3, h4, h5⟩ := h; have := yR.1 15 _ _ rfl; have := yR.1 16 _ _ rfl; have := yR.1 19 _ _ rfl; omega)⟩
theorem d_TrustDeskModel_readClause_7 : decode kY_TrustDeskModel_readClause.2.1 7 = .ok (.istore_n 1, 1) := by decide +kernel
theorem d_TrustDeskModel_readClause_8 : decode kY_TrustDeskModel_readClause.2.1 8 = .ok (.iload_n 1, 1) := by decide +kernel
theorem d_TrustDeskModel_readClause_9 : decode kY_TrustDeskModel_readClause.2.1 9 = .ok (.ifCond .ne 31, 3) := by decide +kernel
theorem d_TrustDeskModel_readClause_40 : decode kY_TrustDeskModel_readClause.2.1 40 = .ok (.aload_n 0, 1) := by decide +kernel
theorem d_TrustDeskModel_readClause_41 : decode kY_TrustDeskModel_readClause.2.1 41 = .ok (.getfield 23, 3) := by decide +kernel
theorem d_TrustDeskModel_readClause_44 : decode kY_TrustDeskModel_readClause.2.1 44 = .ok (.bipush 44, 2) := by decide +kernel
theorem d_TrustDeskModel_readClause_46 : decode kY_TrustDeskModel_readClause.2.1 46 = .ok (.iaload, 1) := by decide +kernel
theorem d_TrustDeskModel_readClause_47 : decode kY_TrustDeskModel_readClause.2.1 47 = .ok (.bipush 12, 2) := by decide +kernel
theorem d_TrustDeskModel_readClause_49 : decode kY_TrustDeskModel_readClause.2.1 49 = .ok (.if_icmp .eq 16, 3) := by decide +kernel
theorem d_TrustDeskModel_readClause_65 : decode kY_TrustDeskModel_readClause.2.1 65 = .ok (.aload_n 0, 1) := by decide +kernel
theorem d_TrustDeskModel_readClause_66 : decode kY_TrustDeskModel_readClause.2.1 66 = .ok (.iconst 4, 1) := by decide +kernel
theorem d_TrustDeskModel_readClause_67 : decode kY_TrustDeskModel_readClause.2.1 67 = .ok (.invokevirtual 240, 3) := by decide +kernel
theorem d_TrustDeskModel_readClause_70 : decode kY_TrustDeskModel_readClause.2.1 70 = .ok (.aload_n 0, 1) := by decide +kernel
theorem d_TrustDeskModel_readClause_71 : decode kY_TrustDeskModel_readClause.2.1 71 = .ok (.invokevirtual 230, 3) := by decide +kernel
theorem d_TrustDeskModel_readClause_74 : decode kY_TrustDeskModel_readClause.2.1 74 = .ok (.ifCond .ne 4, 3) := by decide +kernel
theorem d_TrustDeskModel_readClause_77 : decode kY_TrustDeskModel_readClause.2.1 77 = .ok (.return_, 1) := by decide +kernel
theorem d_TrustDeskModel_readClause_52 : decode kY_TrustDeskModel_readClause.2.1 52 = .ok (.iload_n 1, 1) := by decide +kernel
theorem d_TrustDeskModel_readClause_53 : decode kY_TrustDeskModel_readClause.2.1 53 = .ok (.ifCond .eq 17, 3) := by decide +kernel
theorem d_TrustDeskModel_readClause_56 : decode kY_TrustDeskModel_readClause.2.1 56 = .ok (.aload_n 0, 1) := by decide +kernel
theorem d_TrustDeskModel_readClause_57 : decode kY_TrustDeskModel_readClause.2.1 57 = .ok (.getfield 321, 3) := by decide +kernel
theorem d_TrustDeskModel_readClause_60 : decode kY_TrustDeskModel_readClause.2.1 60 = .ok (.bipush 6, 2) := by decide +kernel
theorem d_TrustDeskModel_readClause_62 : decode kY_TrustDeskModel_readClause.2.1 62 = .ok (.if_icmp .ne 8, 3) := by decide +kernel
theorem d_TrustDeskModel_readClause_78 : decode kY_TrustDeskModel_readClause.2.1 78 = .ok (.aload_n 0, 1) := by decide +kernel
theorem d_TrustDeskModel_readClause_79 : decode kY_TrustDeskModel_readClause.2.1 79 = .ok (.ldc_w 338, 3) := by decide +kernel
theorem d_TrustDeskModel_readClause_82 : decode kY_TrustDeskModel_readClause.2.1 82 = .ok (.invokevirtual 244, 3) := by decide +kernel
def w_TrustDeskModel_isWord_s1_43_x : List Nat := []
set_option maxHeartbeats 100000000 in theorem tc_TrustDeskModel_isWord_s1_43_x {g : mj_G} {l : Launch} {d : Nat} {T0 : tm_H} {M0 : mj_M} {n0 x9 : Nat} {o0 : Nat} (h_o0 : T0 o0 = some (0, 13, 0)) (yR : rI M0 o0) (I0 : tm_I tm_FT (tm_in w_TrustDeskModel_isWord_s1_43_x) x9 T0 M0 n0 T0 M0 n0) : mj_Met g l kY_TrustDeskModel_isWord (d + 4) [.ref o0, .ref 43] M0 n0 0 0 (tm_Q tm_FT (tm_in w_TrustDeskModel_isWord_s1_43_x) x9 T0 M0 n0 (fun r _ M => ∃ v : Int32, r = some (.int v) ∧ 0 ≤ v.toInt ∧ v.toInt ≤ 1 ∧ rI M o0 ∧ (v.toInt = 1 → rv M0 o0 17 = 3) ∧ (v.toInt = 1 → rv M0 o0 17 = 3 ∧ rv M0 o0 15 - rv M0 o0 16 = 4 ∧ ra M0 o0 13 ((rv M0 o0 16).toNat + 0) = 109 ∧ ra M0 o0 13 ((rv M0 o0 16).toNat + 1) = 97 ∧ ra M0 o0 13 ((rv M0 o0 16).toNat + 2) = 114 ∧ ra M0 o0 13 ((rv M0 o0 16).toNat + 3) = 107) ∧ (v.toInt = 0 → ¬ (rv M0 o0 17 = 3 ∧ rv M0 o0 15 - rv M0 o0 16 = 4 ∧ ra M0 o0 13 ((rv M0 o0 16).toNat + 0) = 109 ∧ ra M0 o0 13 ((rv M0 o0 16).toNat + 1) = 97 ∧ ra M0 o0 13 ((rv M0 o0 16).toNat + 2) = 114 ∧ ra M0 o0 13 ((rv M0 o0 16).toNat + 3) = 107)))) := by
  refine mj_enter (by decide) (Nat.le_of_ble_eq_true rfl) ?_
  refine mv_aload_n d_TrustDeskModel_isWord_0 rfl rfl ?_
  obtain ⟨v2, q1⟩ := tm_atI I0 h_o0 (k := 17) rfl
  refine tr_getK q1 d_TrustDeskModel_isWord_1 f_TrustDeskModel_198_13 ?_
  have := tm_rv q1
  refine mv_iconst (v := 3) d_TrustDeskModel_isWord_4 (by decide) ?_
  have := mz_hi v2
  refine mv_icmp_neZ (tgt := 24) (a := v2.toInt) (b := 3) d_TrustDeskModel_isWord_5 (by decide) rfl (by decide) (fun b3 => ?_) (fun b3 => ?_)
  · refine mv_iconst (v := 0) d_TrustDeskModel_isWord_24 (by decide) ?_
    exact mv_iret d_TrustDeskModel_isWord_25 rfl (by decide) ⟨_, I0, _, rfl, by decide, by decide, yR, (fun h => absurd h (by decide)), (fun h => absurd h (by decide)), (fun _ h => by obtain ⟨h1, h2, h3, h4, h5, h6⟩ := h; have := yR.1 15 _ _ rfl; have := yR.1 16 _ _ rfl; have := yR.1 19 _ _ rfl; omega)⟩
  · refine mv_aload_n d_TrustDeskModel_isWord_8 rfl rfl ?_
    obtain ⟨v5, q4⟩ := tm_atI I0 h_o0 (k := 15) rfl
    refine tr_getK q4 d_TrustDeskModel_isWord_9 f_TrustDeskModel_192_13 ?_
    have := yR.f (k := 15) q4 rfl
    have := tm_rv q4
    refine mv_aload_n d_TrustDeskModel_isWord_12 rfl rfl ?_
    obtain ⟨v7, q6⟩ := tm_atI I0 h_o0 (k := 16) rfl
    refine tr_getK q6 d_TrustDeskModel_isWord_13 f_TrustDeskModel_195_13 ?_
    have := yR.f (k := 16) q6 rfl
    have := tm_rv q6
    refine mv_isub d_TrustDeskModel_isWord_16 ?_
    refine mv_aload_n d_TrustDeskModel_isWord_17 rfl rfl ?_
    refine mv_slenK (i := 33) (v := 4) d_TrustDeskModel_isWord_18 lV_TrustDeskModel_214 (by decide) rfl (by decide) (Nat.le_of_ble_eq_true rfl) ?_
    have b8 : (v5 - v7 : Int32).toInt = (v5.toInt - v7.toInt) := mz_sub2 rfl rfl (by have := yR.1 15 _ _ rfl; have := yR.1 16 _ _ rfl; have := yR.1 19 _ _ rfl; omega) (by have := yR.1 15 _ _ rfl; have := yR.1 16 _ _ rfl; have := yR.1 19 _ _ rfl; omega)
    have := mz_hi (v5 - v7)
    refine mv_icmp_eqZ (tgt := 26) (a := (v5 - v7).toInt) (b := 4) d_TrustDeskModel_isWord_21 (by decide) rfl (by decide) (fun b9 => ?_) (fun b9 => ?_)
    · refine mv_iconst (v := 0) d_TrustDeskModel_isWord_26 (by decide) ?_
      refine mv_istore_n (lv' := [(2, .int 0), (0, .ref o0), (1, .ref 43)]) d_TrustDeskModel_isWord_27 rfl (by decide) rfl ?_
      refine mv_iload_n d_TrustDeskModel_isWord_28 rfl rfl ?_
      refine mv_aload_n d_TrustDeskModel_isWord_29 rfl rfl ?_
      refine mv_slenK (i := 33) (v := 4) d_TrustDeskModel_isWord_30 lV_TrustDeskModel_214 (by decide) rfl (by decide) (Nat.le_of_ble_eq_true rfl) ?_
      refine mv_icmp_ge_f (tgt := 63) d_TrustDeskModel_isWord_33 (by decide) (by decide) ?_
      refine mv_aload_n d_TrustDeskModel_isWord_36 rfl rfl ?_
      obtain ⟨a11, q10, t_a11⟩ := tm_atR I0 h_o0 (k := 13) rfl
      refine tr_getK q10 d_TrustDeskModel_isWord_37 f_TrustDeskModel_44_13 ?_
      refine mv_aload_n d_TrustDeskModel_isWord_40 rfl rfl ?_
      refine tr_getK (k := 16) q6 d_TrustDeskModel_isWord_41 f_TrustDeskModel_195_13 ?_
      refine mv_iload_n d_TrustDeskModel_isWord_44 rfl rfl ?_
      refine mv_iadd d_TrustDeskModel_isWord_45 ?_
      have b12 : (v7 + 0 : Int32).toInt = (v7.toInt + 0) := mz_add2 rfl (by decide) (by have := yR.1 15 _ _ rfl; have := yR.1 16 _ _ rfl; have := yR.1 19 _ _ rfl; omega) (by have := yR.1 15 _ _ rfl; have := yR.1 16 _ _ rfl; have := yR.1 19 _ _ rfl; omega)
      refine tr_baldR (o := o0) (k := 13) I0 q10 t_a11 (by decide) d_TrustDeskModel_isWord_46 (vp_in_iff.mpr (by have := yR.1 15 _ _ rfl; have := yR.1 16 _ _ rfl; have := yR.1 19 _ _ rfl; omega)) (fun v13 e14 => ?_)
      have := yR.a (k := 13) rfl ((v7 + 0) : Int32).toNatClampNeg
      have h15 : (v7 + 0).toNatClampNeg = (rv M0 o0 16).toNat + 0 := by have := mz_nat9 (i := (v7 + 0)) (by have := yR.1 15 _ _ rfl; have := yR.1 16 _ _ rfl; have := yR.1 19 _ _ rfl; omega); have := yR.1 15 _ _ rfl; have := yR.1 16 _ _ rfl; have := yR.1 19 _ _ rfl; omega
      have : v13.toInt = ra M0 o0 13 ((rv M0 o0 16).toNat + 0) := by rw [e14, h15]
      refine mv_aload_n d_TrustDeskModel_isWord_47 rfl rfl ?_
      refine mv_iload_n d_TrustDeskModel_isWord_48 rfl rfl ?_
      refine mv_schC (i := 33) (v := 109) d_TrustDeskModel_isWord_49 lV_TrustDeskModel_220 (by decide) rfl (by decide) (by decide) (Nat.le_of_ble_eq_true rfl) (by decide) ?_
      have := mz_hi v13
      refine mv_icmp_eqZ (tgt := 57) (a := v13.toInt) (b := 109) d_TrustDeskModel_isWord_52 (by decide) rfl (by decide) (fun b16 => ?_) (fun b16 => ?_)
      · refine mv_iinc (v := 1) (lv' := [(2, .int 1), (0, .ref o0), (1, .ref 43)]) d_TrustDeskModel_isWord_57 rfl (by decide) (by decide) rfl ?_
        refine mv_goto (tgt := 28) d_TrustDeskModel_isWord_60 (by decide) ?_
        refine mv_iload_n d_TrustDeskModel_isWord_28 rfl rfl ?_
        refine mv_aload_n d_TrustDeskModel_isWord_29 rfl rfl ?_
        refine mv_slenK (i := 33) (v := 4) d_TrustDeskModel_isWord_30 lV_TrustDeskModel_214 (by decide) rfl (by decide) (Nat.le_of_ble_eq_true rfl) ?_
        refine mv_icmp_ge_f (tgt := 63) d_TrustDeskModel_isWord_33 (by decide) (by decide) ?_
        refine mv_aload_n d_TrustDeskModel_isWord_36 rfl rfl ?_
        refine tr_getK (k := 13) q10 d_TrustDeskModel_isWord_37 f_TrustDeskModel_44_13 ?_
        refine mv_aload_n d_TrustDeskModel_isWord_40 rfl rfl ?_
        refine tr_getK (k := 16) q6 d_TrustDeskModel_isWord_41 f_TrustDeskModel_195_13 ?_
        refine mv_iload_n d_TrustDeskModel_isWord_44 rfl rfl ?_
        refine mv_iadd d_TrustDeskModel_isWord_45 ?_
        have b17 : (v7 + 1 : Int32).toInt = (v7.toInt + 1) := mz_add2 rfl (by decide) (by have := yR.1 15 _ _ rfl; have := yR.1 16 _ _ rfl; have := yR.1 19 _ _ rfl; omega) (by have := yR.1 15 _ _ rfl; have := yR.1 16 _ _ rfl; have := yR.1 19 _ _ rfl; omega)
        refine tr_baldR (o := o0) (k := 13) I0 q10 t_a11 (by decide) d_TrustDeskModel_isWord_46 (vp_in_iff.mpr (by have := yR.1 15 _ _ rfl; have := yR.1 16 _ _ rfl; have := yR.1 19 _ _ rfl; omega)) (fun v18 e19 => ?_)
        have := yR.a (k := 13) rfl ((v7 + 1) : Int32).toNatClampNeg
        have h20 : (v7 + 1).toNatClampNeg = (rv M0 o0 16).toNat + 1 := by have := mz_nat9 (i := (v7 + 1)) (by have := yR.1 15 _ _ rfl; have := yR.1 16 _ _ rfl; have := yR.1 19 _ _ rfl; omega); have := yR.1 15 _ _ rfl; have := yR.1 16 _ _ rfl; have := yR.1 19 _ _ rfl; omega
        have : v18.toInt = ra M0 o0 13 ((rv M0 o0 16).toNat + 1) := by rw [e19, h20]
        refine mv_aload_n d_TrustDeskModel_isWord_47 rfl rfl ?_
        refine mv_iload_n d_TrustDeskModel_isWord_48 rfl rfl ?_
        refine mv_schC (i := 33) (v := 97) d_TrustDeskModel_isWord_49 lV_TrustDeskModel_220 (by decide) rfl (by decide) (by decide) (Nat.le_of_ble_eq_true rfl) (by decide) ?_
        have := mz_hi v18
        refine mv_icmp_eqZ (tgt := 57) (a := v18.toInt) (b := 97) d_TrustDeskModel_isWord_52 (by decide) rfl (by decide) (fun b21 => ?_) (fun b21 => ?_)
        · refine mv_iinc (v := 2) (lv' := [(2, .int 2), (0, .ref o0), (1, .ref 43)]) d_TrustDeskModel_isWord_57 rfl (by decide) (by decide) rfl ?_
          refine mv_goto (tgt := 28) d_TrustDeskModel_isWord_60 (by decide) ?_
          refine mv_iload_n d_TrustDeskModel_isWord_28 rfl rfl ?_
          refine mv_aload_n d_TrustDeskModel_isWord_29 rfl rfl ?_
          refine mv_slenK (i := 33) (v := 4) d_TrustDeskModel_isWord_30 lV_TrustDeskModel_214 (by decide) rfl (by decide) (Nat.le_of_ble_eq_true rfl) ?_
          refine mv_icmp_ge_f (tgt := 63) d_TrustDeskModel_isWord_33 (by decide) (by decide) ?_
          refine mv_aload_n d_TrustDeskModel_isWord_36 rfl rfl ?_
          refine tr_getK (k := 13) q10 d_TrustDeskModel_isWord_37 f_TrustDeskModel_44_13 ?_
          refine mv_aload_n d_TrustDeskModel_isWord_40 rfl rfl ?_
          refine tr_getK (k := 16) q6 d_TrustDeskModel_isWord_41 f_TrustDeskModel_195_13 ?_
          refine mv_iload_n d_TrustDeskModel_isWord_44 rfl rfl ?_
          refine mv_iadd d_TrustDeskModel_isWord_45 ?_
          have b22 : (v7 + 2 : Int32).toInt = (v7.toInt + 2) := mz_add2 rfl (by decide) (by have := yR.1 15 _ _ rfl; have := yR.1 16 _ _ rfl; have := yR.1 19 _ _ rfl; omega) (by have := yR.1 15 _ _ rfl; have := yR.1 16 _ _ rfl; have := yR.1 19 _ _ rfl; omega)
          refine tr_baldR (o := o0) (k := 13) I0 q10 t_a11 (by decide) d_TrustDeskModel_isWord_46 (vp_in_iff.mpr (by have := yR.1 15 _ _ rfl; have := yR.1 16 _ _ rfl; have := yR.1 19 _ _ rfl; omega)) (fun v23 e24 => ?_)
          have := yR.a (k := 13) rfl ((v7 + 2) : Int32).toNatClampNeg
          have h25 : (v7 + 2).toNatClampNeg = (rv M0 o0 16).toNat + 2 := by have := mz_nat9 (i := (v7 + 2)) (by have := yR.1 15 _ _ rfl; have := yR.1 16 _ _ rfl; have := yR.1 19 _ _ rfl; omega); have := yR.1 15 _ _ rfl; have := yR.1 16 _ _ rfl; have := yR.1 19 _ _ rfl; omega
          have : v23.toInt = ra M0 o0 13 ((rv M0 o0 16).toNat + 2) := by rw [e24, h25]
          refine mv_aload_n d_TrustDeskModel_isWord_47 rfl rfl ?_
          refine mv_iload_n d_TrustDeskModel_isWord_48 rfl rfl ?_
          refine mv_schC (i := 33) (v := 114) d_TrustDeskModel_isWord_49 lV_TrustDeskModel_220 (by decide) rfl (by decide) (by decide) (Nat.le_of_ble_eq_true rfl) (by decide) ?_
          have := mz_hi v23
          refine mv_icmp_eqZ (tgt := 57) (a := v23.toInt) (b := 114) d_TrustDeskModel_isWord_52 (by decide) rfl (by decide) (fun b26 => ?_) (fun b26 => ?_)
          · refine mv_iinc (v := 3) (lv' := [(2, .int 3), (0, .ref o0), (1, .ref 43)]) d_TrustDeskModel_isWord_57 rfl (by decide) (by decide) rfl ?_
            refine mv_goto (tgt := 28) d_TrustDeskModel_isWord_60 (by decide) ?_
            refine mv_iload_n d_TrustDeskModel_isWord_28 rfl rfl ?_
            refine mv_aload_n d_TrustDeskModel_isWord_29 rfl rfl ?_
            refine mv_slenK (i := 33) (v := 4) d_TrustDeskModel_isWord_30 lV_TrustDeskModel_214 (by decide) rfl (by decide) (Nat.le_of_ble_eq_true rfl) ?_
            refine mv_icmp_ge_f (tgt := 63) d_TrustDeskModel_isWord_33 (by decide) (by decide) ?_
            refine mv_aload_n d_TrustDeskModel_isWord_36 rfl rfl ?_
            refine tr_getK (k := 13) q10 d_TrustDeskModel_isWord_37 f_TrustDeskModel_44_13 ?_
            refine mv_aload_n d_TrustDeskModel_isWord_40 rfl rfl ?_
            refine tr_getK (k := 16) q6 d_TrustDeskModel_isWord_41 f_TrustDeskModel_195_13 ?_
            refine mv_iload_n d_TrustDeskModel_isWord_44 rfl rfl ?_
            refine mv_iadd d_TrustDeskModel_isWord_45 ?_
            have b27 : (v7 + 3 : Int32).toInt = (v7.toInt + 3) := mz_add2 rfl (by decide) (by have := yR.1 15 _ _ rfl; have := yR.1 16 _ _ rfl; have := yR.1 19 _ _ rfl; omega) (by have := yR.1 15 _ _ rfl; have := yR.1 16 _ _ rfl; have := yR.1 19 _ _ rfl; omega)
            refine tr_baldR (o := o0) (k := 13) I0 q10 t_a11 (by decide) d_TrustDeskModel_isWord_46 (vp_in_iff.mpr (by have := yR.1 15 _ _ rfl; have := yR.1 16 _ _ rfl; have := yR.1 19 _ _ rfl; omega)) (fun v28 e29 => ?_)
            have := yR.a (k := 13) rfl ((v7 + 3) : Int32).toNatClampNeg
            have h30 : (v7 + 3).toNatClampNeg = (rv M0 o0 16).toNat + 3 := by have := mz_nat9 (i := (v7 + 3)) (by have := yR.1 15 _ _ rfl; have := yR.1 16 _ _ rfl; have := yR.1 19 _ _ rfl; omega); have := yR.1 15 _ _ rfl; have := yR.1 16 _ _ rfl; have := yR.1 19 _ _ rfl; omega
            have : v28.toInt = ra M0 o0 13 ((rv M0 o0 16).toNat + 3) := by rw [e29, h30]
            refine mv_aload_n d_TrustDeskModel_isWord_47 rfl rfl ?_
            refine mv_iload_n d_TrustDeskModel_isWord_48 rfl rfl ?_
            refine mv_schC (i := 33) (v := 107) d_TrustDeskModel_isWord_49 lV_TrustDeskModel_220 (by decide) rfl (by decide) (by decide) (Nat.le_of_ble_eq_true rfl) (by decide) ?_
            have := mz_hi v28
            refine mv_icmp_eqZ (tgt := 57) (a := v28.toInt) (b := 107) d_TrustDeskModel_isWord_52 (by decide) rfl (by decide) (fun b31 => ?_) (fun b31 => ?_)
            · refine mv_iinc (v := 4) (lv' := [(2, .int 4), (0, .ref o0), (1, .ref 43)]) d_TrustDeskModel_isWord_57 rfl (by decide) (by decide) rfl ?_
              refine mv_goto (tgt := 28) d_TrustDeskModel_isWord_60 (by decide) ?_
              refine mv_iload_n d_TrustDeskModel_isWord_28 rfl rfl ?_
              refine mv_aload_n d_TrustDeskModel_isWord_29 rfl rfl ?_
              refine mv_slenK (i := 33) (v := 4) d_TrustDeskModel_isWord_30 lV_TrustDeskModel_214 (by decide) rfl (by decide) (Nat.le_of_ble_eq_true rfl) ?_
              refine mv_icmp_ge_t (tgt := 63) d_TrustDeskModel_isWord_33 (by decide) (by decide) ?_
              refine mv_iconst (v := 1) d_TrustDeskModel_isWord_63 (by decide) ?_
              exact mv_iret d_TrustDeskModel_isWord_64 rfl (by decide) ⟨_, I0, _, rfl, by decide, by decide, yR, (fun _ => by have := yR.1 15 _ _ rfl; have := yR.1 16 _ _ rfl; have := yR.1 19 _ _ rfl; omega), (fun _ => ⟨by have := yR.1 15 _ _ rfl; have := yR.1 16 _ _ rfl; have := yR.1 19 _ _ rfl; omega, by have := yR.1 15 _ _ rfl; have := yR.1 16 _ _ rfl; have := yR.1 19 _ _ rfl; omega, by have := yR.1 15 _ _ rfl; have := yR.1 16 _ _ rfl; have := yR.1 19 _ _ rfl; omega, by have := yR.1 15 _ _ rfl; have := yR.1 16 _ _ rfl; have := yR.1 19 _ _ rfl; omega, by have := yR.1 15 _ _ rfl; have := yR.1 16 _ _ rfl; have := yR.1 19 _ _ rfl; omega, by have := yR.1 15 _ _ rfl; have := yR.1 16 _ _ rfl; have := yR.1 19 _ _ rfl; omega⟩), (fun h => absurd h (by decide))⟩
            · refine mv_iconst (v := 0) d_TrustDeskModel_isWord_55 (by decide) ?_
              exact mv_iret d_TrustDeskModel_isWord_56 rfl (by decide) ⟨_, I0, _, rfl, by decide, by decide, yR, (fun h => absurd h (by decide)), (fun h => absurd h (by decide)), (fun _ h => by obtain ⟨h1, h2, h3, h4, h5, h6⟩ := h; have := yR.1 15 _ _ rfl; have := yR.1 16 _ _ rfl; have := yR.1 19 _ _ rfl; omega)⟩
          · refine mv_iconst (v := 0) d_TrustDeskModel_isWord_55 (by decide) ?_
            exact mv_iret d_TrustDeskModel_isWord_56 rfl (by decide) ⟨_, I0, _, rfl, by decide, by decide, yR, (fun h => absurd h (by decide)), (fun h => absurd h (by decide)), (fun _ h => by obtain ⟨h1, h2, h3, h4, h5, h6⟩ := h; have := yR.1 15 _ _ rfl; have := yR.1 16 _ _ rfl; have := yR.1 19 _ _ rfl; omega)⟩
        · refine mv_iconst (v := 0) d_TrustDeskModel_isWord_55 (by decide) ?_
          exact mv_iret d_TrustDeskModel_isWord_56 rfl (by decide) ⟨_, I0, _, rfl, by decide, by decide, yR, (fun h => absurd h (by decide)), (fun h => absurd h (by decide)), (fun _ h => by obtain ⟨h1, h2, h3, h4, h5, h6⟩ := h; have := yR.1 15 _ _ rfl; have := yR.1 16 _ _ rfl; have := yR.1 19 _ _ rfl; omega)⟩
      · refine mv_iconst (v := 0) d_TrustDeskModel_isWord_55 (by decide) ?_
        exact mv_iret d_TrustDeskModel_isWord_56 rfl (by decide) ⟨_, I0, _, rfl, by decide, by decide, yR, (fun h => absurd h (by decide)), (fun h => absurd h (by decide)), (fun _ h => by obtain ⟨h1, h2, h3, h4, h5, h6⟩ := h; have := yR.1 15 _ _ rfl; have := yR.1 16 _ _ rfl; have := yR.1 19 _ _ rfl; omega)⟩
    · refine mv_iconst (v := 0) d_TrustDeskModel_isWord_24 (by decide) ?_
      exact mv_iret d_TrustDeskModel_isWord_25 rfl (by decide) ⟨_, I0, _, rfl, by decide, by decide, yR, (fun h => absurd h (by decide)), (fun h => absurd h (by decide)), (fun _ h => by obtain ⟨h1, h2, h3, h4, h5, h6⟩ := h; have := yR.1 15 _ _ rfl; have := yR.1 16 _ _ rfl; have := yR.1 19 _ _ rfl; omega)⟩
theorem d_TrustDeskModel_readClause_85 : decode kY_TrustDeskModel_readClause.2.1 85 = .ok (.istore_n 2, 1) := by decide +kernel
theorem d_TrustDeskModel_readClause_86 : decode kY_TrustDeskModel_readClause.2.1 86 = .ok (.aload_n 0, 1) := by decide +kernel
theorem d_TrustDeskModel_readClause_87 : decode kY_TrustDeskModel_readClause.2.1 87 = .ok (.iload_n 1, 1) := by decide +kernel
theorem d_TrustDeskModel_readClause_88 : decode kY_TrustDeskModel_readClause.2.1 88 = .ok (.ifCond .eq 8, 3) := by decide +kernel
theorem d_TrustDeskModel_readClause_91 : decode kY_TrustDeskModel_readClause.2.1 91 = .ok (.bipush 8, 2) := by decide +kernel
theorem d_TrustDeskModel_readClause_93 : decode kY_TrustDeskModel_readClause.2.1 93 = .ok (.goto 14, 3) := by decide +kernel
theorem d_TrustDeskModel_readClause_107 : decode kY_TrustDeskModel_readClause.2.1 107 = .ok (.invokevirtual 342, 3) := by decide +kernel
theorem lV_TrustDeskModel_342 : mj_lV "TrustDeskModel" 342 kY_TrustDeskModel_begin 1 := ⟨⟨(mj_in1 (List.mem_of_getElem? (i := 1691) (by decide +kernel)) rfl), (mj_in1 (List.mem_of_getElem? (i := 10) (by decide +kernel)) rfl), (mj_in1 (List.mem_of_getElem? (i := 1694) (by decide +kernel)) rfl), by decide, rfl, by decide⟩, (mj_in1 (List.mem_of_getElem? (i := 1693) (by decide +kernel)) rfl), (mj_in (List.mem_append_left _ (List.mem_of_getElem? (i := 88) (by decide +kernel))) rfl)⟩
theorem d_TrustDeskModel_readClause_110 : decode kY_TrustDeskModel_readClause.2.1 110 = .ok (.istore_n 3, 1) := by decide +kernel
theorem d_TrustDeskModel_readClause_111 : decode kY_TrustDeskModel_readClause.2.1 111 = .ok (.iload_n 1, 1) := by decide +kernel
theorem d_TrustDeskModel_readClause_112 : decode kY_TrustDeskModel_readClause.2.1 112 = .ok (.ifCond .eq 11, 3) := by decide +kernel
theorem d_TrustDeskModel_readClause_115 : decode kY_TrustDeskModel_readClause.2.1 115 = .ok (.aload_n 0, 1) := by decide +kernel
theorem d_TrustDeskModel_readClause_116 : decode kY_TrustDeskModel_readClause.2.1 116 = .ok (.iload_n 3, 1) := by decide +kernel
theorem d_TrustDeskModel_readClause_117 : decode kY_TrustDeskModel_readClause.2.1 117 = .ok (.invokevirtual 345, 3) := by decide +kernel
theorem lV_TrustDeskModel_345 : mj_lV "TrustDeskModel" 345 kY_TrustDeskModel_readEnd 1 := ⟨⟨(mj_in1 (List.mem_of_getElem? (i := 1802) (by decide +kernel)) rfl), (mj_in1 (List.mem_of_getElem? (i := 10) (by decide +kernel)) rfl), (mj_in1 (List.mem_of_getElem? (i := 1805) (by decide +kernel)) rfl), by decide, rfl, by decide⟩, (mj_in1 (List.mem_of_getElem? (i := 1804) (by decide +kernel)) rfl), (mj_in (List.mem_append_left _ (List.mem_of_getElem? (i := 107) (by decide +kernel))) rfl)⟩
theorem d_TrustDeskModel_readClause_120 : decode kY_TrustDeskModel_readClause.2.1 120 = .ok (.goto 45, 3) := by decide +kernel
theorem d_TrustDeskModel_readClause_165 : decode kY_TrustDeskModel_readClause.2.1 165 = .ok (.aload_n 0, 1) := by decide +kernel
theorem d_TrustDeskModel_readClause_166 : decode kY_TrustDeskModel_readClause.2.1 166 = .ok (.bipush 59, 2) := by decide +kernel
theorem d_TrustDeskModel_readClause_168 : decode kY_TrustDeskModel_readClause.2.1 168 = .ok (.invokevirtual 291, 3) := by decide +kernel
theorem d_TrustDeskModel_readClause_171 : decode kY_TrustDeskModel_readClause.2.1 171 = .ok (.aload_n 0, 1) := by decide +kernel
theorem d_TrustDeskModel_readClause_172 : decode kY_TrustDeskModel_readClause.2.1 172 = .ok (.getfield 41, 3) := by decide +kernel
theorem f_TrustDeskModel_41_13 : mj_fl "TrustDeskModel" 41 13 12 := ⟨kR_TrustDeskModel, kF_TrustDeskModel, 72, "TrustDeskModel", rfl, kg_13, by decide, (mj_in1 (List.mem_of_getElem? (i := 1398) (by decide +kernel)) rfl), Or.inl rfl⟩
theorem d_TrustDeskModel_readClause_175 : decode kY_TrustDeskModel_readClause.2.1 175 = .ok (.iload_n 3, 1) := by decide +kernel
theorem d_TrustDeskModel_readClause_176 : decode kY_TrustDeskModel_readClause.2.1 176 = .ok (.aload_n 0, 1) := by decide +kernel
theorem d_TrustDeskModel_readClause_177 : decode kY_TrustDeskModel_readClause.2.1 177 = .ok (.getfield 20, 3) := by decide +kernel
theorem d_TrustDeskModel_readClause_180 : decode kY_TrustDeskModel_readClause.2.1 180 = .ok (.bipush 44, 2) := by decide +kernel
theorem d_TrustDeskModel_readClause_182 : decode kY_TrustDeskModel_readClause.2.1 182 = .ok (.iaload, 1) := by decide +kernel
theorem d_TrustDeskModel_readClause_183 : decode kY_TrustDeskModel_readClause.2.1 183 = .ok (.iastore, 1) := by decide +kernel
theorem d_TrustDeskModel_readClause_184 : decode kY_TrustDeskModel_readClause.2.1 184 = .ok (.return_, 1) := by decide +kernel
theorem d_TrustDeskModel_readClause_12 : decode kY_TrustDeskModel_readClause.2.1 12 = .ok (.aload_n 0, 1) := by decide +kernel
theorem d_TrustDeskModel_readClause_13 : decode kY_TrustDeskModel_readClause.2.1 13 = .ok (.ldc_w 338, 3) := by decide +kernel
theorem d_TrustDeskModel_readClause_16 : decode kY_TrustDeskModel_readClause.2.1 16 = .ok (.invokevirtual 244, 3) := by decide +kernel
theorem d_TrustDeskModel_readClause_19 : decode kY_TrustDeskModel_readClause.2.1 19 = .ok (.ifCond .ne 21, 3) := by decide +kernel
theorem d_TrustDeskModel_readClause_96 : decode kY_TrustDeskModel_readClause.2.1 96 = .ok (.iload_n 2, 1) := by decide +kernel
theorem d_TrustDeskModel_readClause_97 : decode kY_TrustDeskModel_readClause.2.1 97 = .ok (.ifCond .eq 8, 3) := by decide +kernel
theorem d_TrustDeskModel_readClause_105 : decode kY_TrustDeskModel_readClause.2.1 105 = .ok (.bipush 9, 2) := by decide +kernel
theorem d_TrustDeskModel_readClause_123 : decode kY_TrustDeskModel_readClause.2.1 123 = .ok (.iload_n 2, 1) := by decide +kernel
theorem d_TrustDeskModel_readClause_124 : decode kY_TrustDeskModel_readClause.2.1 124 = .ok (.ifCond .eq 11, 3) := by decide +kernel
theorem d_TrustDeskModel_readClause_135 : decode kY_TrustDeskModel_readClause.2.1 135 = .ok (.aload_n 0, 1) := by decide +kernel
theorem d_TrustDeskModel_readClause_136 : decode kY_TrustDeskModel_readClause.2.1 136 = .ok (.getfield 29, 3) := by decide +kernel
theorem d_TrustDeskModel_readClause_139 : decode kY_TrustDeskModel_readClause.2.1 139 = .ok (.iload_n 3, 1) := by decide +kernel
theorem d_TrustDeskModel_readClause_140 : decode kY_TrustDeskModel_readClause.2.1 140 = .ok (.aload_n 0, 1) := by decide +kernel
theorem d_TrustDeskModel_readClause_141 : decode kY_TrustDeskModel_readClause.2.1 141 = .ok (.iconst 1, 1) := by decide +kernel
theorem d_TrustDeskModel_readClause_142 : decode kY_TrustDeskModel_readClause.2.1 142 = .ok (.bipush 7, 2) := by decide +kernel
theorem d_TrustDeskModel_readClause_144 : decode kY_TrustDeskModel_readClause.2.1 144 = .ok (.invokevirtual 317, 3) := by decide +kernel
theorem d_TrustDeskModel_readClause_147 : decode kY_TrustDeskModel_readClause.2.1 147 = .ok (.iastore, 1) := by decide +kernel
theorem d_TrustDeskModel_readClause_148 : decode kY_TrustDeskModel_readClause.2.1 148 = .ok (.aload_n 0, 1) := by decide +kernel
theorem d_TrustDeskModel_readClause_149 : decode kY_TrustDeskModel_readClause.2.1 149 = .ok (.getfield 32, 3) := by decide +kernel
theorem d_TrustDeskModel_readClause_152 : decode kY_TrustDeskModel_readClause.2.1 152 = .ok (.iload_n 3, 1) := by decide +kernel
theorem d_TrustDeskModel_readClause_153 : decode kY_TrustDeskModel_readClause.2.1 153 = .ok (.aload_n 0, 1) := by decide +kernel
theorem d_TrustDeskModel_readClause_154 : decode kY_TrustDeskModel_readClause.2.1 154 = .ok (.iconst 1, 1) := by decide +kernel
theorem d_TrustDeskModel_readClause_155 : decode kY_TrustDeskModel_readClause.2.1 155 = .ok (.aload_n 0, 1) := by decide +kernel
theorem d_TrustDeskModel_readClause_156 : decode kY_TrustDeskModel_readClause.2.1 156 = .ok (.getfield 29, 3) := by decide +kernel
theorem d_TrustDeskModel_readClause_159 : decode kY_TrustDeskModel_readClause.2.1 159 = .ok (.iload_n 3, 1) := by decide +kernel
theorem d_TrustDeskModel_readClause_160 : decode kY_TrustDeskModel_readClause.2.1 160 = .ok (.iaload, 1) := by decide +kernel
theorem d_TrustDeskModel_readClause_161 : decode kY_TrustDeskModel_readClause.2.1 161 = .ok (.invokevirtual 317, 3) := by decide +kernel
theorem d_TrustDeskModel_readClause_164 : decode kY_TrustDeskModel_readClause.2.1 164 = .ok (.iastore, 1) := by decide +kernel
theorem d_TrustDeskModel_readClause_100 : decode kY_TrustDeskModel_readClause.2.1 100 = .ok (.bipush 7, 2) := by decide +kernel
theorem d_TrustDeskModel_readClause_102 : decode kY_TrustDeskModel_readClause.2.1 102 = .ok (.goto 5, 3) := by decide +kernel
theorem d_TrustDeskModel_readClause_127 : decode kY_TrustDeskModel_readClause.2.1 127 = .ok (.aload_n 0, 1) := by decide +kernel
theorem d_TrustDeskModel_readClause_128 : decode kY_TrustDeskModel_readClause.2.1 128 = .ok (.iload_n 3, 1) := by decide +kernel
theorem d_TrustDeskModel_readClause_129 : decode kY_TrustDeskModel_readClause.2.1 129 = .ok (.invokevirtual 348, 3) := by decide +kernel
theorem lV_TrustDeskModel_348 : mj_lV "TrustDeskModel" 348 kY_TrustDeskModel_readMarks 1 := ⟨⟨(mj_in1 (List.mem_of_getElem? (i := 1812) (by decide +kernel)) rfl), (mj_in1 (List.mem_of_getElem? (i := 10) (by decide +kernel)) rfl), (mj_in1 (List.mem_of_getElem? (i := 1815) (by decide +kernel)) rfl), by decide, rfl, by decide⟩, (mj_in1 (List.mem_of_getElem? (i := 1814) (by decide +kernel)) rfl), (mj_in (List.mem_append_left _ (List.mem_of_getElem? (i := 109) (by decide +kernel))) rfl)⟩
theorem d_TrustDeskModel_readClause_132 : decode kY_TrustDeskModel_readClause.2.1 132 = .ok (.goto 33, 3) := by decide +kernel
theorem d_TrustDeskModel_readClause_22 : decode kY_TrustDeskModel_readClause.2.1 22 = .ok (.aload_n 0, 1) := by decide +kernel
theorem d_TrustDeskModel_readClause_23 : decode kY_TrustDeskModel_readClause.2.1 23 = .ok (.ldc_w 340, 3) := by decide +kernel
theorem d_TrustDeskModel_readClause_26 : decode kY_TrustDeskModel_readClause.2.1 26 = .ok (.invokevirtual 244, 3) := by decide +kernel
def w_TrustDeskModel_isWord_s1_44_x : List Nat := []
set_option maxHeartbeats 100000000 in theorem tc_TrustDeskModel_isWord_s1_44_x {g : mj_G} {l : Launch} {d : Nat} {T0 : tm_H} {M0 : mj_M} {n0 x9 : Nat} {o0 : Nat} (h_o0 : T0 o0 = some (0, 13, 0)) (yR : rI M0 o0) (I0 : tm_I tm_FT (tm_in w_TrustDeskModel_isWord_s1_44_x) x9 T0 M0 n0 T0 M0 n0) : mj_Met g l kY_TrustDeskModel_isWord (d + 4) [.ref o0, .ref 44] M0 n0 0 0 (tm_Q tm_FT (tm_in w_TrustDeskModel_isWord_s1_44_x) x9 T0 M0 n0 (fun r _ M => ∃ v : Int32, r = some (.int v) ∧ 0 ≤ v.toInt ∧ v.toInt ≤ 1 ∧ rI M o0 ∧ (v.toInt = 1 → rv M0 o0 17 = 3) ∧ (v.toInt = 1 → rv M0 o0 17 = 3 ∧ rv M0 o0 15 - rv M0 o0 16 = 5 ∧ ra M0 o0 13 ((rv M0 o0 16).toNat + 0) = 116 ∧ ra M0 o0 13 ((rv M0 o0 16).toNat + 1) = 114 ∧ ra M0 o0 13 ((rv M0 o0 16).toNat + 2) = 117 ∧ ra M0 o0 13 ((rv M0 o0 16).toNat + 3) = 115 ∧ ra M0 o0 13 ((rv M0 o0 16).toNat + 4) = 116) ∧ (v.toInt = 0 → ¬ (rv M0 o0 17 = 3 ∧ rv M0 o0 15 - rv M0 o0 16 = 5 ∧ ra M0 o0 13 ((rv M0 o0 16).toNat + 0) = 116 ∧ ra M0 o0 13 ((rv M0 o0 16).toNat + 1) = 114 ∧ ra M0 o0 13 ((rv M0 o0 16).toNat + 2) = 117 ∧ ra M0 o0 13 ((rv M0 o0 16).toNat + 3) = 115 ∧ ra M0 o0 13 ((rv M0 o0 16).toNat + 4) = 116)))) := by
  refine mj_enter (by decide) (Nat.le_of_ble_eq_true rfl) ?_
  refine mv_aload_n d_TrustDeskModel_isWord_0 rfl rfl ?_
  obtain ⟨v2, q1⟩ := tm_atI I0 h_o0 (k := 17) rfl
  refine tr_getK q1 d_TrustDeskModel_isWord_1 f_TrustDeskModel_198_13 ?_
  have := tm_rv q1
  refine mv_iconst (v := 3) d_TrustDeskModel_isWord_4 (by decide) ?_
  have := mz_hi v2
  refine mv_icmp_neZ (tgt := 24) (a := v2.toInt) (b := 3) d_TrustDeskModel_isWord_5 (by decide) rfl (by decide) (fun b3 => ?_) (fun b3 => ?_)
  · refine mv_iconst (v := 0) d_TrustDeskModel_isWord_24 (by decide) ?_
    exact mv_iret d_TrustDeskModel_isWord_25 rfl (by decide) ⟨_, I0, _, rfl, by decide, by decide, yR, (fun h => absurd h (by decide)), (fun h => absurd h (by decide)), (fun _ h => by obtain ⟨h1, h2, h3, h4, h5, h6, h7⟩ := h; have := yR.1 15 _ _ rfl; have := yR.1 16 _ _ rfl; have := yR.1 19 _ _ rfl; omega)⟩
  · refine mv_aload_n d_TrustDeskModel_isWord_8 rfl rfl ?_
    obtain ⟨v5, q4⟩ := tm_atI I0 h_o0 (k := 15) rfl
    refine tr_getK q4 d_TrustDeskModel_isWord_9 f_TrustDeskModel_192_13 ?_
    have := yR.f (k := 15) q4 rfl
    have := tm_rv q4
    refine mv_aload_n d_TrustDeskModel_isWord_12 rfl rfl ?_
    obtain ⟨v7, q6⟩ := tm_atI I0 h_o0 (k := 16) rfl
    refine tr_getK q6 d_TrustDeskModel_isWord_13 f_TrustDeskModel_195_13 ?_
    have := yR.f (k := 16) q6 rfl
    have := tm_rv q6
    refine mv_isub d_TrustDeskModel_isWord_16 ?_
    refine mv_aload_n d_TrustDeskModel_isWord_17 rfl rfl ?_
    refine mv_slenK (i := 34) (v := 5) d_TrustDeskModel_isWord_18 lV_TrustDeskModel_214 (by decide) rfl (by decide) (Nat.le_of_ble_eq_true rfl) ?_
    have b8 : (v5 - v7 : Int32).toInt = (v5.toInt - v7.toInt) := mz_sub2 rfl rfl (by have := yR.1 15 _ _ rfl; have := yR.1 16 _ _ rfl; have := yR.1 19 _ _ rfl; omega) (by have := yR.1 15 _ _ rfl; have := yR.1 16 _ _ rfl; have := yR.1 19 _ _ rfl; omega)
    have := mz_hi (v5 - v7)
    refine mv_icmp_eqZ (tgt := 26) (a := (v5 - v7).toInt) (b := 5) d_TrustDeskModel_isWord_21 (by decide) rfl (by decide) (fun b9 => ?_) (fun b9 => ?_)
    · refine mv_iconst (v := 0) d_TrustDeskModel_isWord_26 (by decide) ?_
      refine mv_istore_n (lv' := [(2, .int 0), (0, .ref o0), (1, .ref 44)]) d_TrustDeskModel_isWord_27 rfl (by decide) rfl ?_
      refine mv_iload_n d_TrustDeskModel_isWord_28 rfl rfl ?_
      refine mv_aload_n d_TrustDeskModel_isWord_29 rfl rfl ?_
      refine mv_slenK (i := 34) (v := 5) d_TrustDeskModel_isWord_30 lV_TrustDeskModel_214 (by decide) rfl (by decide) (Nat.le_of_ble_eq_true rfl) ?_
      refine mv_icmp_ge_f (tgt := 63) d_TrustDeskModel_isWord_33 (by decide) (by decide) ?_
      refine mv_aload_n d_TrustDeskModel_isWord_36 rfl rfl ?_
      obtain ⟨a11, q10, t_a11⟩ := tm_atR I0 h_o0 (k := 13) rfl
      refine tr_getK q10 d_TrustDeskModel_isWord_37 f_TrustDeskModel_44_13 ?_
      refine mv_aload_n d_TrustDeskModel_isWord_40 rfl rfl ?_
      refine tr_getK (k := 16) q6 d_TrustDeskModel_isWord_41 f_TrustDeskModel_195_13 ?_
      refine mv_iload_n d_TrustDeskModel_isWord_44 rfl rfl ?_
      refine mv_iadd d_TrustDeskModel_isWord_45 ?_
      have b12 : (v7 + 0 : Int32).toInt = (v7.toInt + 0) := mz_add2 rfl (by decide) (by have := yR.1 15 _ _ rfl; have := yR.1 16 _ _ rfl; have := yR.1 19 _ _ rfl; omega) (by have := yR.1 15 _ _ rfl; have := yR.1 16 _ _ rfl; have := yR.1 19 _ _ rfl; omega)
      refine tr_baldR (o := o0) (k := 13) I0 q10 t_a11 (by decide) d_TrustDeskModel_isWord_46 (vp_in_iff.mpr (by have := yR.1 15 _ _ rfl; have := yR.1 16 _ _ rfl; have := yR.1 19 _ _ rfl; omega)) (fun v13 e14 => ?_)
      have := yR.a (k := 13) rfl ((v7 + 0) : Int32).toNatClampNeg
      have h15 : (v7 + 0).toNatClampNeg = (rv M0 o0 16).toNat + 0 := by have := mz_nat9 (i := (v7 + 0)) (by have := yR.1 15 _ _ rfl; have := yR.1 16 _ _ rfl; have := yR.1 19 _ _ rfl; omega); have := yR.1 15 _ _ rfl; have := yR.1 16 _ _ rfl; have := yR.1 19 _ _ rfl; omega
      have : v13.toInt = ra M0 o0 13 ((rv M0 o0 16).toNat + 0) := by rw [e14, h15]
      refine mv_aload_n d_TrustDeskModel_isWord_47 rfl rfl ?_
      refine mv_iload_n d_TrustDeskModel_isWord_48 rfl rfl ?_
      refine mv_schC (i := 34) (v := 116) d_TrustDeskModel_isWord_49 lV_TrustDeskModel_220 (by decide) rfl (by decide) (by decide) (Nat.le_of_ble_eq_true rfl) (by decide) ?_
      have := mz_hi v13
      refine mv_icmp_eqZ (tgt := 57) (a := v13.toInt) (b := 116) d_TrustDeskModel_isWord_52 (by decide) rfl (by decide) (fun b16 => ?_) (fun b16 => ?_)
      · refine mv_iinc (v := 1) (lv' := [(2, .int 1), (0, .ref o0), (1, .ref 44)]) d_TrustDeskModel_isWord_57 rfl (by decide) (by decide) rfl ?_
        refine mv_goto (tgt := 28) d_TrustDeskModel_isWord_60 (by decide) ?_
        refine mv_iload_n d_TrustDeskModel_isWord_28 rfl rfl ?_
        refine mv_aload_n d_TrustDeskModel_isWord_29 rfl rfl ?_
        refine mv_slenK (i := 34) (v := 5) d_TrustDeskModel_isWord_30 lV_TrustDeskModel_214 (by decide) rfl (by decide) (Nat.le_of_ble_eq_true rfl) ?_
        refine mv_icmp_ge_f (tgt := 63) d_TrustDeskModel_isWord_33 (by decide) (by decide) ?_
        refine mv_aload_n d_TrustDeskModel_isWord_36 rfl rfl ?_
        refine tr_getK (k := 13) q10 d_TrustDeskModel_isWord_37 f_TrustDeskModel_44_13 ?_
        refine mv_aload_n d_TrustDeskModel_isWord_40 rfl rfl ?_
        refine tr_getK (k := 16) q6 d_TrustDeskModel_isWord_41 f_TrustDeskModel_195_13 ?_
        refine mv_iload_n d_TrustDeskModel_isWord_44 rfl rfl ?_
        refine mv_iadd d_TrustDeskModel_isWord_45 ?_
        have b17 : (v7 + 1 : Int32).toInt = (v7.toInt + 1) := mz_add2 rfl (by decide) (by have := yR.1 15 _ _ rfl; have := yR.1 16 _ _ rfl; have := yR.1 19 _ _ rfl; omega) (by have := yR.1 15 _ _ rfl; have := yR.1 16 _ _ rfl; have := yR.1 19 _ _ rfl; omega)
        refine tr_baldR (o := o0) (k := 13) I0 q10 t_a11 (by decide) d_TrustDeskModel_isWord_46 (vp_in_iff.mpr (by have := yR.1 15 _ _ rfl; have := yR.1 16 _ _ rfl; have := yR.1 19 _ _ rfl; omega)) (fun v18 e19 => ?_)
        have := yR.a (k := 13) rfl ((v7 + 1) : Int32).toNatClampNeg
        have h20 : (v7 + 1).toNatClampNeg = (rv M0 o0 16).toNat + 1 := by have := mz_nat9 (i := (v7 + 1)) (by have := yR.1 15 _ _ rfl; have := yR.1 16 _ _ rfl; have := yR.1 19 _ _ rfl; omega); have := yR.1 15 _ _ rfl; have := yR.1 16 _ _ rfl; have := yR.1 19 _ _ rfl; omega
        have : v18.toInt = ra M0 o0 13 ((rv M0 o0 16).toNat + 1) := by rw [e19, h20]
        refine mv_aload_n d_TrustDeskModel_isWord_47 rfl rfl ?_
        refine mv_iload_n d_TrustDeskModel_isWord_48 rfl rfl ?_
        refine mv_schC (i := 34) (v := 114) d_TrustDeskModel_isWord_49 lV_TrustDeskModel_220 (by decide) rfl (by decide) (by decide) (Nat.le_of_ble_eq_true rfl) (by decide) ?_
        have := mz_hi v18
        refine mv_icmp_eqZ (tgt := 57) (a := v18.toInt) (b := 114) d_TrustDeskModel_isWord_52 (by decide) rfl (by decide) (fun b21 => ?_) (fun b21 => ?_)
        · refine mv_iinc (v := 2) (lv' := [(2, .int 2), (0, .ref o0), (1, .ref 44)]) d_TrustDeskModel_isWord_57 rfl (by decide) (by decide) rfl ?_
          refine mv_goto (tgt := 28) d_TrustDeskModel_isWord_60 (by decide) ?_
          refine mv_iload_n d_TrustDeskModel_isWord_28 rfl rfl ?_
          refine mv_aload_n d_TrustDeskModel_isWord_29 rfl rfl ?_
          refine mv_slenK (i := 34) (v := 5) d_TrustDeskModel_isWord_30 lV_TrustDeskModel_214 (by decide) rfl (by decide) (Nat.le_of_ble_eq_true rfl) ?_
          refine mv_icmp_ge_f (tgt := 63) d_TrustDeskModel_isWord_33 (by decide) (by decide) ?_
          refine mv_aload_n d_TrustDeskModel_isWord_36 rfl rfl ?_
          refine tr_getK (k := 13) q10 d_TrustDeskModel_isWord_37 f_TrustDeskModel_44_13 ?_
          refine mv_aload_n d_TrustDeskModel_isWord_40 rfl rfl ?_
          refine tr_getK (k := 16) q6 d_TrustDeskModel_isWord_41 f_TrustDeskModel_195_13 ?_
          refine mv_iload_n d_TrustDeskModel_isWord_44 rfl rfl ?_
          refine mv_iadd d_TrustDeskModel_isWord_45 ?_
          have b22 : (v7 + 2 : Int32).toInt = (v7.toInt + 2) := mz_add2 rfl (by decide) (by have := yR.1 15 _ _ rfl; have := yR.1 16 _ _ rfl; have := yR.1 19 _ _ rfl; omega) (by have := yR.1 15 _ _ rfl; have := yR.1 16 _ _ rfl; have := yR.1 19 _ _ rfl; omega)
          refine tr_baldR (o := o0) (k := 13) I0 q10 t_a11 (by decide) d_TrustDeskModel_isWord_46 (vp_in_iff.mpr (by have := yR.1 15 _ _ rfl; have := yR.1 16 _ _ rfl; have := yR.1 19 _ _ rfl; omega)) (fun v23 e24 => ?_)
          have := yR.a (k := 13) rfl ((v7 + 2) : Int32).toNatClampNeg
          have h25 : (v7 + 2).toNatClampNeg = (rv M0 o0 16).toNat + 2 := by have := mz_nat9 (i := (v7 + 2)) (by have := yR.1 15 _ _ rfl; have := yR.1 16 _ _ rfl; have := yR.1 19 _ _ rfl; omega); have := yR.1 15 _ _ rfl; have := yR.1 16 _ _ rfl; have := yR.1 19 _ _ rfl; omega
          have : v23.toInt = ra M0 o0 13 ((rv M0 o0 16).toNat + 2) := by rw [e24, h25]
          refine mv_aload_n d_TrustDeskModel_isWord_47 rfl rfl ?_
          refine mv_iload_n d_TrustDeskModel_isWord_48 rfl rfl ?_
          refine mv_schC (i := 34) (v := 117) d_TrustDeskModel_isWord_49 lV_TrustDeskModel_220 (by decide) rfl (by decide) (by decide) (Nat.le_of_ble_eq_true rfl) (by decide) ?_
          have := mz_hi v23
          refine mv_icmp_eqZ (tgt := 57) (a := v23.toInt) (b := 117) d_TrustDeskModel_isWord_52 (by decide) rfl (by decide) (fun b26 => ?_) (fun b26 => ?_)
          · refine mv_iinc (v := 3) (lv' := [(2, .int 3), (0, .ref o0), (1, .ref 44)]) d_TrustDeskModel_isWord_57 rfl (by decide) (by decide) rfl ?_
            refine mv_goto (tgt := 28) d_TrustDeskModel_isWord_60 (by decide) ?_
            refine mv_iload_n d_TrustDeskModel_isWord_28 rfl rfl ?_
            refine mv_aload_n d_TrustDeskModel_isWord_29 rfl rfl ?_
            refine mv_slenK (i := 34) (v := 5) d_TrustDeskModel_isWord_30 lV_TrustDeskModel_214 (by decide) rfl (by decide) (Nat.le_of_ble_eq_true rfl) ?_
            refine mv_icmp_ge_f (tgt := 63) d_TrustDeskModel_isWord_33 (by decide) (by decide) ?_
            refine mv_aload_n d_TrustDeskModel_isWord_36 rfl rfl ?_
            refine tr_getK (k := 13) q10 d_TrustDeskModel_isWord_37 f_TrustDeskModel_44_13 ?_
            refine mv_aload_n d_TrustDeskModel_isWord_40 rfl rfl ?_
            refine tr_getK (k := 16) q6 d_TrustDeskModel_isWord_41 f_TrustDeskModel_195_13 ?_
            refine mv_iload_n d_TrustDeskModel_isWord_44 rfl rfl ?_
            refine mv_iadd d_TrustDeskModel_isWord_45 ?_
            have b27 : (v7 + 3 : Int32).toInt = (v7.toInt + 3) := mz_add2 rfl (by decide) (by have := yR.1 15 _ _ rfl; have := yR.1 16 _ _ rfl; have := yR.1 19 _ _ rfl; omega) (by have := yR.1 15 _ _ rfl; have := yR.1 16 _ _ rfl; have := yR.1 19 _ _ rfl; omega)
            refine tr_baldR (o := o0) (k := 13) I0 q10 t_a11 (by decide) d_TrustDeskModel_isWord_46 (vp_in_iff.mpr (by have := yR.1 15 _ _ rfl; have := yR.1 16 _ _ rfl; have := yR.1 19 _ _ rfl; omega)) (fun v28 e29 => ?_)
            have := yR.a (k := 13) rfl ((v7 + 3) : Int32).toNatClampNeg
            have h30 : (v7 + 3).toNatClampNeg = (rv M0 o0 16).toNat + 3 := by have := mz_nat9 (i := (v7 + 3)) (by have := yR.1 15 _ _ rfl; have := yR.1 16 _ _ rfl; have := yR.1 19 _ _ rfl; omega); have := yR.1 15 _ _ rfl; have := yR.1 16 _ _ rfl; have := yR.1 19 _ _ rfl; omega
            have : v28.toInt = ra M0 o0 13 ((rv M0 o0 16).toNat + 3) := by rw [e29, h30]
            refine mv_aload_n d_TrustDeskModel_isWord_47 rfl rfl ?_
            refine mv_iload_n d_TrustDeskModel_isWord_48 rfl rfl ?_
            refine mv_schC (i := 34) (v := 115) d_TrustDeskModel_isWord_49 lV_TrustDeskModel_220 (by decide) rfl (by decide) (by decide) (Nat.le_of_ble_eq_true rfl) (by decide) ?_
            have := mz_hi v28
            refine mv_icmp_eqZ (tgt := 57) (a := v28.toInt) (b := 115) d_TrustDeskModel_isWord_52 (by decide) rfl (by decide) (fun b31 => ?_) (fun b31 => ?_)
            · refine mv_iinc (v := 4) (lv' := [(2, .int 4), (0, .ref o0), (1, .ref 44)]) d_TrustDeskModel_isWord_57 rfl (by decide) (by decide) rfl ?_
              refine mv_goto (tgt := 28) d_TrustDeskModel_isWord_60 (by decide) ?_
              refine mv_iload_n d_TrustDeskModel_isWord_28 rfl rfl ?_
              refine mv_aload_n d_TrustDeskModel_isWord_29 rfl rfl ?_
              refine mv_slenK (i := 34) (v := 5) d_TrustDeskModel_isWord_30 lV_TrustDeskModel_214 (by decide) rfl (by decide) (Nat.le_of_ble_eq_true rfl) ?_
              refine mv_icmp_ge_f (tgt := 63) d_TrustDeskModel_isWord_33 (by decide) (by decide) ?_
              refine mv_aload_n d_TrustDeskModel_isWord_36 rfl rfl ?_
              refine tr_getK (k := 13) q10 d_TrustDeskModel_isWord_37 f_TrustDeskModel_44_13 ?_
              refine mv_aload_n d_TrustDeskModel_isWord_40 rfl rfl ?_
              refine tr_getK (k := 16) q6 d_TrustDeskModel_isWord_41 f_TrustDeskModel_195_13 ?_
              refine mv_iload_n d_TrustDeskModel_isWord_44 rfl rfl ?_
              refine mv_iadd d_TrustDeskModel_isWord_45 ?_
              have b32 : (v7 + 4 : Int32).toInt = (v7.toInt + 4) := mz_add2 rfl (by decide) (by have := yR.1 15 _ _ rfl; have := yR.1 16 _ _ rfl; have := yR.1 19 _ _ rfl; omega) (by have := yR.1 15 _ _ rfl; have := yR.1 16 _ _ rfl; have := yR.1 19 _ _ rfl; omega)
              refine tr_baldR (o := o0) (k := 13) I0 q10 t_a11 (by decide) d_TrustDeskModel_isWord_46 (vp_in_iff.mpr (by have := yR.1 15 _ _ rfl; have := yR.1 16 _ _ rfl; have := yR.1 19 _ _ rfl; omega)) (fun v33 e34 => ?_)
              have := yR.a (k := 13) rfl ((v7 + 4) : Int32).toNatClampNeg
              have h35 : (v7 + 4).toNatClampNeg = (rv M0 o0 16).toNat + 4 := by have := mz_nat9 (i := (v7 + 4)) (by have := yR.1 15 _ _ rfl; have := yR.1 16 _ _ rfl; have := yR.1 19 _ _ rfl; omega); have := yR.1 15 _ _ rfl; have := yR.1 16 _ _ rfl; have := yR.1 19 _ _ rfl; omega
              have : v33.toInt = ra M0 o0 13 ((rv M0 o0 16).toNat + 4) := by rw [e34, h35]
              refine mv_aload_n d_TrustDeskModel_isWord_47 rfl rfl ?_
              refine mv_iload_n d_TrustDeskModel_isWord_48 rfl rfl ?_
              refine mv_schC (i := 34) (v := 116) d_TrustDeskModel_isWord_49 lV_TrustDeskModel_220 (by decide) rfl (by decide) (by decide) (Nat.le_of_ble_eq_true rfl) (by decide) ?_
              have := mz_hi v33
              refine mv_icmp_eqZ (tgt := 57) (a := v33.toInt) (b := 116) d_TrustDeskModel_isWord_52 (by decide) rfl (by decide) (fun b36 => ?_) (fun b36 => ?_)
              · refine mv_iinc (v := 5) (lv' := [(2, .int 5), (0, .ref o0), (1, .ref 44)]) d_TrustDeskModel_isWord_57 rfl (by decide) (by decide) rfl ?_
                refine mv_goto (tgt := 28) d_TrustDeskModel_isWord_60 (by decide) ?_
                refine mv_iload_n d_TrustDeskModel_isWord_28 rfl rfl ?_
                refine mv_aload_n d_TrustDeskModel_isWord_29 rfl rfl ?_
                refine mv_slenK (i := 34) (v := 5) d_TrustDeskModel_isWord_30 lV_TrustDeskModel_214 (by decide) rfl (by decide) (Nat.le_of_ble_eq_true rfl) ?_
                refine mv_icmp_ge_t (tgt := 63) d_TrustDeskModel_isWord_33 (by decide) (by decide) ?_
                refine mv_iconst (v := 1) d_TrustDeskModel_isWord_63 (by decide) ?_
                exact mv_iret d_TrustDeskModel_isWord_64 rfl (by decide) ⟨_, I0, _, rfl, by decide, by decide, yR, (fun _ => by have := yR.1 15 _ _ rfl; have := yR.1 16 _ _ rfl; have := yR.1 19 _ _ rfl; omega), (fun _ => ⟨by have := yR.1 15 _ _ rfl; have := yR.1 16 _ _ rfl; have := yR.1 19 _ _ rfl; omega, by have := yR.1 15 _ _ rfl; have := yR.1 16 _ _ rfl; have := yR.1 19 _ _ rfl; omega, by have := yR.1 15 _ _ rfl; have := yR.1 16 _ _ rfl; have := yR.1 19 _ _ rfl; omega, by have := yR.1 15 _ _ rfl; have := yR.1 16 _ _ rfl; have := yR.1 19 _ _ rfl; omega, by have := yR.1 15 _ _ rfl; have := yR.1 16 _ _ rfl; have := yR.1 19 _ _ rfl; omega, by have := yR.1 15 _ _ rfl; have := yR.1 16 _ _ rfl; have := yR.1 19 _ _ rfl; omega, by have := yR.1 15 _ _ rfl; have := yR.1 16 _ _ rfl; have := yR.1 19 _ _ rfl; omega⟩), (fun h => absurd h (by decide))⟩
              · refine mv_iconst (v := 0) d_TrustDeskModel_isWord_55 (by decide) ?_
                exact mv_iret d_TrustDeskModel_isWord_56 rfl (by decide) ⟨_, I0, _, rfl, by decide, by decide, yR, (fun h => absurd h (by decide)), (fun h => absurd h (by decide)), (fun _ h => by obtain ⟨h1, h2, h3, h4, h5, h6, h7⟩ := h; have := yR.1 15 _ _ rfl; have := yR.1 16 _ _ rfl; have := yR.1 19 _ _ rfl; omega)⟩
            · refine mv_iconst (v := 0) d_TrustDeskModel_isWord_55 (by decide) ?_
              exact mv_iret d_TrustDeskModel_isWord_56 rfl (by decide) ⟨_, I0, _, rfl, by decide, by decide, yR, (fun h => absurd h (by decide)), (fun h => absurd h (by decide)), (fun _ h => by obtain ⟨h1, h2, h3, h4, h5, h6, h7⟩ := h; have := yR.1 15 _ _ rfl; have := yR.1 16 _ _ rfl; have := yR.1 19 _ _ rfl; omega)⟩
          · refine mv_iconst (v := 0) d_TrustDeskModel_isWord_55 (by decide) ?_
            exact mv_iret d_TrustDeskModel_isWord_56 rfl (by decide) ⟨_, I0, _, rfl, by decide, by decide, yR, (fun h => absurd h (by decide)), (fun h => absurd h (by decide)), (fun _ h => by obtain ⟨h1, h2, h3, h4, h5, h6, h7⟩ := h; have := yR.1 15 _ _ rfl; have := yR.1 16 _ _ rfl; have := yR.1 19 _ _ rfl; omega)⟩
        · refine mv_iconst (v := 0) d_TrustDeskModel_isWord_55 (by decide) ?_
          exact mv_iret d_TrustDeskModel_isWord_56 rfl (by decide) ⟨_, I0, _, rfl, by decide, by decide, yR, (fun h => absurd h (by decide)), (fun h => absurd h (by decide)), (fun _ h => by obtain ⟨h1, h2, h3, h4, h5, h6, h7⟩ := h; have := yR.1 15 _ _ rfl; have := yR.1 16 _ _ rfl; have := yR.1 19 _ _ rfl; omega)⟩
      · refine mv_iconst (v := 0) d_TrustDeskModel_isWord_55 (by decide) ?_
        exact mv_iret d_TrustDeskModel_isWord_56 rfl (by decide) ⟨_, I0, _, rfl, by decide, by decide, yR, (fun h => absurd h (by decide)), (fun h => absurd h (by decide)), (fun _ h => by obtain ⟨h1, h2, h3, h4, h5, h6, h7⟩ := h; have := yR.1 15 _ _ rfl; have := yR.1 16 _ _ rfl; have := yR.1 19 _ _ rfl; omega)⟩
    · refine mv_iconst (v := 0) d_TrustDeskModel_isWord_24 (by decide) ?_
      exact mv_iret d_TrustDeskModel_isWord_25 rfl (by decide) ⟨_, I0, _, rfl, by decide, by decide, yR, (fun h => absurd h (by decide)), (fun h => absurd h (by decide)), (fun _ h => by obtain ⟨h1, h2, h3, h4, h5, h6, h7⟩ := h; have := yR.1 15 _ _ rfl; have := yR.1 16 _ _ rfl; have := yR.1 19 _ _ rfl; omega)⟩
theorem d_TrustDeskModel_readClause_29 : decode kY_TrustDeskModel_readClause.2.1 29 = .ok (.ifCond .ne 11, 3) := by decide +kernel
theorem d_TrustDeskModel_readClause_32 : decode kY_TrustDeskModel_readClause.2.1 32 = .ok (.aload_n 0, 1) := by decide +kernel
theorem d_TrustDeskModel_readClause_33 : decode kY_TrustDeskModel_readClause.2.1 33 = .ok (.iconst 1, 1) := by decide +kernel
theorem d_TrustDeskModel_readClause_34 : decode kY_TrustDeskModel_readClause.2.1 34 = .ok (.invokevirtual 240, 3) := by decide +kernel
theorem d_TrustDeskModel_readClause_37 : decode kY_TrustDeskModel_readClause.2.1 37 = .ok (.goto 33, 3) := by decide +kernel
