section PCL
variable {b : Nat → Int} {n c : Nat} {na : Int} {N : List (Nat × Nat)} {s : p_S}
theorem p_cl_nz (h : s.1 ≠ 0) : p_cl b n na (c, N, s) = (N, s) := if_neg h
theorem p_cl_1 (h : s.1 = 0) (h1 : p_wi b n s.2.2 ≠ 26) (h2 : p_wi b n s.2.2 ≠ 24) (h3 : p_wi b n s.2.2 ≠ 25) : p_cl b n na (c, N, s) = (N, p_fl b n 1 s) :=
  (if_pos h).trans (if_neg (fun h9 : p_wi b n s.2.2 = 26 ∨ p_wi b n s.2.2 = 24 ∨ p_wi b n s.2.2 = 25 => by omega))
theorem p_cl_4 (h : s.1 = 0) (h1 : p_wi b n s.2.2 = 26 ∨ p_wi b n s.2.2 = 24 ∨ p_wi b n s.2.2 = 25) (h2 : 12 ≤ c ∨ (p_wi b n s.2.2 = 26 ∧ 6 ≤ N.length)) : p_cl b n na (c, N, s) = (N, p_fl b n 4 s) :=
  (if_pos h).trans ((if_pos h1).trans (if_pos h2))
theorem p_cl_e (h : s.1 = 0) (h1 : p_wi b n s.2.2 = 26) (h2 : ¬ 12 ≤ c) (h3 : ¬ 6 ≤ N.length) : p_cl b n na (c, N, s) = (N ++ [(p_st b n (s.2.2 + 1), p_sp b n (s.2.2 + 1))], p_sg b n 59 (p_en1 b n na N (p_nx s))) :=
  (if_pos h).trans ((if_pos (Or.inl h1)).trans ((if_neg (fun h9 : 12 ≤ c ∨ (p_wi b n s.2.2 = 26 ∧ 6 ≤ N.length) => by omega)).trans (if_pos h1)))
theorem p_cl_m (h : s.1 = 0) (h1 : p_wi b n s.2.2 = 24) (h2 : ¬ 12 ≤ c) : p_cl b n na (c, N, s) = (N, p_sg b n 59 (p_mar b n (p_nx s))) :=
  (if_pos h).trans ((if_pos (Or.inr (Or.inl h1))).trans ((if_neg (fun h9 : 12 ≤ c ∨ (p_wi b n s.2.2 = 26 ∧ 6 ≤ N.length) => by omega)).trans ((if_neg (fun h9 : p_wi b n s.2.2 = 26 => by omega)).trans (if_pos h1))))
theorem p_cl_t (h : s.1 = 0) (h1 : p_wi b n s.2.2 = 25) (h2 : ¬ 12 ≤ c) : p_cl b n na (c, N, s) = (N, p_sg b n 59 (p_tru b n (p_nx s))) :=
  (if_pos h).trans ((if_pos (Or.inr (Or.inr h1))).trans ((if_neg (fun h9 : 12 ≤ c ∨ (p_wi b n s.2.2 = 26 ∧ 6 ≤ N.length) => by omega)).trans ((if_neg (fun h9 : p_wi b n s.2.2 = 26 => by omega)).trans (if_neg (fun h9 : p_wi b n s.2.2 = 24 => by omega)))))
theorem p_num_hi {lo v w : Int} (h : s.1 = 0 → v = w) : p_num b n lo w s = p_num b n lo v s := by
  by_cases h1 : s.1 = 0
  · rw [h h1]
  · exact (p_num_Z _ h1).trans (p_num_Z _ h1).symm
end PCL
abbrev kY_TrustDeskModel_readClause : mj_Y := (⟨"TrustDeskModel", "readClause", "()V"⟩, prog_14_method_38_code, 4, (Option.none : Option Jvm.ClassFile.FieldType))
theorem d_TrustDeskModel_readClause_0 : decode kY_TrustDeskModel_readClause.2.1 0 = .ok (.aload_n 0, 1) := by decide +kernel
theorem d_TrustDeskModel_readClause_1 : decode kY_TrustDeskModel_readClause.2.1 1 = .ok (.ldc_w 336, 3) := by decide +kernel
theorem d_TrustDeskModel_readClause_4 : decode kY_TrustDeskModel_readClause.2.1 4 = .ok (.invokevirtual 244, 3) := by decide +kernel
def w_TrustDeskModel_isWord_s1_42_x : List Nat := []
set_option maxHeartbeats 100000000 in theorem tc_TrustDeskModel_isWord_s1_42_x {g : mj_G} {l : Launch} {d : Nat} {T0 : tm_H} {M0 : mj_M} {n0 x9 : Nat} {o0 : Nat} (h_o0 : T0 o0 = some (0, 13, 0)) (yR : rI M0 o0) (I0 : tm_I tm_FT (tm_in w_TrustDeskModel_isWord_s1_42_x) x9 T0 M0 n0 T0 M0 n0) : mj_Met g l kY_TrustDeskModel_isWord (d + 4) [.ref o0, .ref 42] M0 n0 0 0 (tm_Q tm_FT (tm_in w_TrustDeskModel_isWord_s1_42_x) x9 T0 M0 n0 (fun r _ M => ∃ v : Int32, r = some (.int v) ∧ 0 ≤ v.toInt ∧ v.toInt ≤ 1 ∧ rI M o0 ∧ (v.toInt = 1 → rv M0 o0 17 = 3) ∧ (v.toInt = 1 → rwE M0 o0) ∧ (v.toInt = 0 → ¬ rwE M0 o0))) := by
  refine mj_enter (by decide) (Nat.le_of_ble_eq_true rfl) ?_
  refine mv_aload_n d_TrustDeskModel_isWord_0 rfl rfl ?_
  obtain ⟨v2, q1⟩ := tm_atI I0 h_o0 (k := 17) rfl
  refine tr_getK q1 d_TrustDeskModel_isWord_1 f_TrustDeskModel_198_13 ?_
  have := tm_rv q1
  refine mv_iconst (v := 3) d_TrustDeskModel_isWord_4 (by decide) ?_
  have := mz_hi v2
  refine mv_icmp_neZ (tgt := 24) (a := v2.toInt) (b := 3) d_TrustDeskModel_isWord_5 (by decide) rfl (by decide) (fun b3 => ?_) (fun b3 => ?_)
  · refine mv_iconst (v := 0) d_TrustDeskModel_isWord_24 (by decide) ?_
    exact mv_iret d_TrustDeskModel_isWord_25 rfl (by decide) ⟨_, I0, _, rfl, by decide, by decide, yR, (fun h => absurd h (by decide)), (fun h => absurd h (by decide)), (fun _ h => by obtain ⟨h1, h2, h3, h4, h5⟩ := h; have := yR.1 15 _ _ rfl; have := yR.1 16 _ _ rfl; have := yR.1 19 _ _ rfl; omega)⟩
  · refine mv_aload_n d_TrustDeskModel_isWord_8 rfl rfl ?_
    obtain ⟨v5, q4⟩ := tm_atI I0 h_o0 (k := 15) rfl
    refine tr_getK q4 d_TrustDeskModel_isWord_9 f_TrustDeskModel_192_13 ?_
    have := yR.f (k := 15) q4 rfl
    have := tm_rv q4
    refine mv_aload_n d_TrustDeskModel_isWord_12 rfl rfl ?_
    obtain ⟨v7, q6⟩ := tm_atI I0 h_o0 (k := 16) rfl
    refine tr_getK q6 d_TrustDeskModel_isWord_13 f_TrustDeskModel_195_13 ?_
    have := yR.f (k := 16) q6 rfl
    have := tm_rv q6
    refine mv_isub d_TrustDeskModel_isWord_16 ?_
    refine mv_aload_n d_TrustDeskModel_isWord_17 rfl rfl ?_
    refine mv_slenK (i := 32) (v := 3) d_TrustDeskModel_isWord_18 lV_TrustDeskModel_214 (by decide) rfl (by decide) (Nat.le_of_ble_eq_true rfl) ?_
    have b8 : (v5 - v7 : Int32).toInt = (v5.toInt - v7.toInt) := mz_sub2 rfl rfl (by have := yR.1 15 _ _ rfl; have := yR.1 16 _ _ rfl; have := yR.1 19 _ _ rfl; omega) (by have := yR.1 15 _ _ rfl; have := yR.1 16 _ _ rfl; have := yR.1 19 _ _ rfl; omega)
    have := mz_hi (v5 - v7)
    refine mv_icmp_eqZ (tgt := 26) (a := (v5 - v7).toInt) (b := 3) d_TrustDeskModel_isWord_21 (by decide) rfl (by decide) (fun b9 => ?_) (fun b9 => ?_)
    · refine mv_iconst (v := 0) d_TrustDeskModel_isWord_26 (by decide) ?_
      refine mv_istore_n (lv' := [(2, .int 0), (0, .ref o0), (1, .ref 42)]) d_TrustDeskModel_isWord_27 rfl (by decide) rfl ?_
      refine mv_iload_n d_TrustDeskModel_isWord_28 rfl rfl ?_
      refine mv_aload_n d_TrustDeskModel_isWord_29 rfl rfl ?_
      refine mv_slenK (i := 32) (v := 3) d_TrustDeskModel_isWord_30 lV_TrustDeskModel_214 (by decide) rfl (by decide) (Nat.le_of_ble_eq_true rfl) ?_
      refine mv_icmp_ge_f (tgt := 63) d_TrustDeskModel_isWord_33 (by decide) (by decide) ?_
      refine mv_aload_n d_TrustDeskModel_isWord_36 rfl rfl ?_
      obtain ⟨a11, q10, t_a11⟩ := tm_atR I0 h_o0 (k := 13) rfl
      refine tr_getK q10 d_TrustDeskModel_isWord_37 f_TrustDeskModel_44_13 ?_
      refine mv_aload_n d_TrustDeskModel_isWord_40 rfl rfl ?_
      refine tr_getK (k := 16) q6 d_TrustDeskModel_isWord_41 f_TrustDeskModel_195_13 ?_
      refine mv_iload_n d_TrustDeskModel_isWord_44 rfl rfl ?_
      refine mv_iadd d_TrustDeskModel_isWord_45 ?_
      have b12 : (v7 + 0 : Int32).toInt = (v7.toInt + 0) := mz_add2 rfl (by decide) (by have := yR.1 15 _ _ rfl; have := yR.1 16 _ _ rfl; have := yR.1 19 _ _ rfl; omega) (by have := yR.1 15 _ _ rfl; have := yR.1 16 _ _ rfl; have := yR.1 19 _ _ rfl; omega)
      refine tr_baldR (o := o0) (k := 13) I0 q10 t_a11 (by decide) d_TrustDeskModel_isWord_46 (vp_in_iff.mpr (by have := yR.1 15 _ _ rfl; have := yR.1 16 _ _ rfl; have := yR.1 19 _ _ rfl; omega)) (fun v13 e14 => ?_)
      have := yR.a (k := 13) rfl ((v7 + 0) : Int32).toNatClampNeg
      have h15 : (v7 + 0).toNatClampNeg = (rv M0 o0 16).toNat + 0 := by have := mz_nat9 (i := (v7 + 0)) (by have := yR.1 15 _ _ rfl; have := yR.1 16 _ _ rfl; have := yR.1 19 _ _ rfl; omega); have := yR.1 15 _ _ rfl; have := yR.1 16 _ _ rfl; have := yR.1 19 _ _ rfl; omega
      have : v13.toInt = ra M0 o0 13 ((rv M0 o0 16).toNat + 0) := by rw [e14, h15]
      refine mv_aload_n d_TrustDeskModel_isWord_47 rfl rfl ?_
      refine mv_iload_n d_TrustDeskModel_isWord_48 rfl rfl ?_
      refine mv_schC (i := 32) (v := 101) d_TrustDeskModel_isWord_49 lV_TrustDeskModel_220 (by decide) rfl (by decide) (by decide) (Nat.le_of_ble_eq_true rfl) (by decide) ?_
      have := mz_hi v13
      refine mv_icmp_eqZ (tgt := 57) (a := v13.toInt) (b := 101) d_TrustDeskModel_isWord_52 (by decide) rfl (by decide) (fun b16 => ?_) (fun b16 => ?_)
      · refine mv_iinc (v := 1) (lv' := [(2, .int 1), (0, .ref o0), (1, .ref 42)]) d_TrustDeskModel_isWord_57 rfl (by decide) (by decide) rfl ?_
        refine mv_goto (tgt := 28) d_TrustDeskModel_isWord_60 (by decide) ?_
        refine mv_iload_n d_TrustDeskModel_isWord_28 rfl rfl ?_
        refine mv_aload_n d_TrustDeskModel_isWord_29 rfl rfl ?_
        refine mv_slenK (i := 32) (v := 3) d_TrustDeskModel_isWord_30 lV_TrustDeskModel_214 (by decide) rfl (by decide) (Nat.le_of_ble_eq_true rfl) ?_
        refine mv_icmp_ge_f (tgt := 63) d_TrustDeskModel_isWord_33 (by decide) (by decide) ?_
        refine mv_aload_n d_TrustDeskModel_isWord_36 rfl rfl ?_
        refine tr_getK (k := 13) q10 d_TrustDeskModel_isWord_37 f_TrustDeskModel_44_13 ?_
        refine mv_aload_n d_TrustDeskModel_isWord_40 rfl rfl ?_
        refine tr_getK (k := 16) q6 d_TrustDeskModel_isWord_41 f_TrustDeskModel_195_13 ?_
        refine mv_iload_n d_TrustDeskModel_isWord_44 rfl rfl ?_
        refine mv_iadd d_TrustDeskModel_isWord_45 ?_
        have b17 : (v7 + 1 : Int32).toInt = (v7.toInt + 1) := mz_add2 rfl (by decide) (by have := yR.1 15 _ _ rfl; have := yR.1 16 _ _ rfl; have := yR.1 19 _ _ rfl; omega) (by have := yR.1 15 _ _ rfl; have := yR.1 16 _ _ rfl; have := yR.1 19 _ _ rfl; omega)
        refine tr_baldR (o := o0) (k := 13) I0 q10 t_a11 (by decide) d_TrustDeskModel_isWord_46 (vp_in_iff.mpr (by have := yR.1 15 _ _ rfl; have := yR.1 16 _ _ rfl; have := yR.1 19 _ _ rfl; omega)) (fun v18 e19 => ?_)
        have := yR.a (k := 13) rfl ((v7 + 1) : Int32).toNatClampNeg
        have h20 : (v7 + 1).toNatClampNeg = (rv M0 o0 16).toNat + 1 := by have := mz_nat9 (i := (v7 + 1)) (by have := yR.1 15 _ _ rfl; have := yR.1 16 _ _ rfl; have := yR.1 19 _ _ rfl; omega); have := yR.1 15 _ _ rfl; have := yR.1 16 _ _ rfl; have := yR.1 19 _ _ rfl; omega
        have : v18.toInt = ra M0 o0 13 ((rv M0 o0 16).toNat + 1) := by rw [e19, h20]
        refine mv_aload_n d_TrustDeskModel_isWord_47 rfl rfl ?_
        refine mv_iload_n d_TrustDeskModel_isWord_48 rfl rfl ?_
        refine mv_schC (i := 32) (v := 110) d_TrustDeskModel_isWord_49 lV_TrustDeskModel_220 (by decide) rfl (by decide) (by decide) (Nat.le_of_ble_eq_true rfl) (by decide) ?_
        have := mz_hi v18
        refine mv_icmp_eqZ (tgt := 57) (a := v18.toInt) (b := 110) d_TrustDeskModel_isWord_52 (by decide) rfl (by decide) (fun b21 => ?_) (fun b21 => ?_)
        · refine mv_iinc (v := 2) (lv' := [(2, .int 2), (0, .ref o0), (1, .ref 42)]) d_TrustDeskModel_isWord_57 rfl (by decide) (by decide) rfl ?_
          refine mv_goto (tgt := 28) d_TrustDeskModel_isWord_60 (by decide) ?_
          refine mv_iload_n d_TrustDeskModel_isWord_28 rfl rfl ?_
          refine mv_aload_n d_TrustDeskModel_isWord_29 rfl rfl ?_
          refine mv_slenK (i := 32) (v := 3) d_TrustDeskModel_isWord_30 lV_TrustDeskModel_214 (by decide) rfl (by decide) (Nat.le_of_ble_eq_true rfl) ?_
          refine mv_icmp_ge_f (tgt := 63) d_TrustDeskModel_isWord_33 (by decide) (by decide) ?_
          refine mv_aload_n d_TrustDeskModel_isWord_36 rfl rfl ?_
          refine tr_getK (k := 13) q10 d_TrustDeskModel_isWord_37 f_TrustDeskModel_44_13 ?_
          refine mv_aload_n d_TrustDeskModel_isWord_40 rfl rfl ?_
          refine tr_getK (k := 16) q6 d_TrustDeskModel_isWord_41 f_TrustDeskModel_195_13 ?_
          refine mv_iload_n d_TrustDeskModel_isWord_44 rfl rfl ?_
          refine mv_iadd d_TrustDeskModel_isWord_45 ?_
          have b22 : (v7 + 2 : Int32).toInt = (v7.toInt + 2) := mz_add2 rfl (by decide) (by have := yR.1 15 _ _ rfl; have := yR.1 16 _ _ rfl; have := yR.1 19 _ _ rfl; omega) (by have := yR.1 15 _ _ rfl; have := yR.1 16 _ _ rfl; have := yR.1 19 _ _ rfl; omega)
          refine tr_baldR (o := o0) (k := 13) I0 q10 t_a11 (by decide) d_TrustDeskModel_isWord_46 (vp_in_iff.mpr (by have := yR.1 15 _ _ rfl; have := yR.1 16 _ _ rfl; have := yR.1 19 _ _ rfl; omega)) (fun v23 e24 => ?_)
          have := yR.a (k := 13) rfl ((v7 + 2) : Int32).toNatClampNeg
          have h25 : (v7 + 2).toNatClampNeg = (rv M0 o0 16).toNat + 2 := by have := mz_nat9 (i := (v7 + 2)) (by have := yR.1 15 _ _ rfl; have := yR.1 16 _ _ rfl; have := yR.1 19 _ _ rfl; omega); have := yR.1 15 _ _ rfl; have := yR.1 16 _ _ rfl; have := yR.1 19 _ _ rfl; omega
          have : v23.toInt = ra M0 o0 13 ((rv M0 o0 16).toNat + 2) := by rw [e24, h25]
          refine mv_aload_n d_TrustDeskModel_isWord_47 rfl rfl ?_
          refine mv_iload_n d_TrustDeskModel_isWord_48 rfl rfl ?_
          refine mv_schC (i := 32) (v := 100) d_TrustDeskModel_isWord_49 lV_TrustDeskModel_220 (by decide) rfl (by decide) (by decide) (Nat.le_of_ble_eq_true rfl) (by decide) ?_
          have := mz_hi v23
          refine mv_icmp_eqZ (tgt := 57) (a := v23.toInt) (b := 100) d_TrustDeskModel_isWord_52 (by decide) rfl (by decide) (fun b26 => ?_) (fun b26 => ?_)
          · refine mv_iinc (v := 3) (lv' := [(2, .int 3), (0, .ref o0), (1, .ref 42)]) d_TrustDeskModel_isWord_57 rfl (by decide) (by decide) rfl ?_
            refine mv_goto (tgt := 28) d_TrustDeskModel_isWord_60 (by decide) ?_
            refine mv_iload_n d_TrustDeskModel_isWord_28 rfl rfl ?_
            refine mv_aload_n d_TrustDeskModel_isWord_29 rfl rfl ?_
            refine mv_slenK (i := 32) (v := 3) d_TrustDeskModel_isWord_30 lV_TrustDeskModel_214 (by decide) rfl (by decide) (Nat.le_of_ble_eq_true rfl) ?_
            refine mv_icmp_ge_t (tgt := 63) d_TrustDeskModel_isWord_33 (by decide) (by decide) ?_
            refine mv_iconst (v := 1) d_TrustDeskModel_isWord_63 (by decide) ?_
            exact mv_iret d_TrustDeskModel_isWord_64 rfl (by decide) ⟨_, I0, _, rfl, by decide, by decide, yR, (fun _ => by have := yR.1 15 _ _ rfl; have := yR.1 16 _ _ rfl; have := yR.1 19 _ _ rfl; omega), (fun _ => ⟨by have := yR.1 15 _ _ rfl; have := yR.1 16 _ _ rfl; have := yR.1 19 _ _ rfl; omega, by have := yR.1 15 _ _ rfl; have := yR.1 16 _ _ rfl; have := yR.1 19 _ _ rfl; omega, by have := yR.1 15 _ _ rfl; have := yR.1 16 _ _ rfl; have := yR.1 19 _ _ rfl; omega, by have := yR.1 15 _ _ rfl; have := yR.1 16 _ _ rfl; have := yR.1 19 _ _ rfl; omega, by have := yR.1 15 _ _ rfl; have := yR.1 16 _ _ rfl; have := yR.1 19 _ _ rfl; omega⟩), (fun h => absurd h (by decide))⟩
          · refine mv_iconst (v := 0) d_TrustDeskModel_isWord_55 (by decide) ?_
            exact mv_iret d_TrustDeskModel_isWord_56 rfl (by decide) ⟨_, I0, _, rfl, by decide, by decide, yR, (fun h => absurd h (by decide)), (fun h => absurd h (by decide)), (fun _ h => by obtain ⟨h1, h2, h3, h4, h5⟩ := h; have := yR.1 15 _ _ rfl; have := yR.1 16 _ _ rfl; have := yR.1 19 _ _ rfl; omega)⟩
        · refine mv_iconst (v := 0) d_TrustDeskModel_isWord_55 (by decide) ?_
          exact mv_iret d_TrustDeskModel_isWord_56 rfl (by decide) ⟨_, I0, _, rfl, by decide, by decide, yR, (fun h => absurd h (by decide)), (fun h => absurd h (by decide)), (fun _ h => by obtain ⟨h1, h2, h3, h4, h5⟩ := h; have := yR.1 15 _ _ rfl; have := yR.1 16 _ _ rfl; have := yR.1 19 _ _ rfl; omega)⟩
      · refine mv_iconst (v := 0) d_TrustDeskModel_isWord_55 (by decide) ?_
        exact mv_iret d_TrustDeskModel_isWord_56 rfl (by decide) ⟨_, I0, _, rfl, by decide, by decide, yR, (fun h => absurd h (by decide)), (fun h => absurd h (by decide)), (fun _ h => by obtain ⟨h1, h2, h3, h4, h5⟩ := h; have := yR.1 15 _ _ rfl; have := yR.1 16 _ _ rfl; have := yR.1 19 _ _ rfl; omega)⟩
    · refine mv_iconst (v := 0) d_TrustDeskModel_isWord_24 (by decide) ?_
      exact mv_iret d_TrustDeskModel_isWord_25 rfl (by decide) ⟨_, I0, _, rfl, by decide, by decide, yR, (fun h => absurd h (by decide)), (fun h => absurd h (by decide)), (fun _ h => by obtain ⟨h1, h2, h3, h4, h5⟩ := h; have := yR.1 15 _ _ rfl; have := yR.1 16 _ _ rfl; have := yR.1 19 _ _ rfl; omega)⟩
theorem d_TrustDeskModel_readClause_7 : decode kY_TrustDeskModel_readClause.2.1 7 = .ok (.istore_n 1, 1) := by decide +kernel
theorem d_TrustDeskModel_readClause_8 : decode kY_TrustDeskModel_readClause.2.1 8 = .ok (.iload_n 1, 1) := by decide +kernel
theorem d_TrustDeskModel_readClause_9 : decode kY_TrustDeskModel_readClause.2.1 9 = .ok (.ifCond .ne 31, 3) := by decide +kernel
theorem d_TrustDeskModel_readClause_40 : decode kY_TrustDeskModel_readClause.2.1 40 = .ok (.aload_n 0, 1) := by decide +kernel
theorem d_TrustDeskModel_readClause_41 : decode kY_TrustDeskModel_readClause.2.1 41 = .ok (.getfield 23, 3) := by decide +kernel
theorem d_TrustDeskModel_readClause_44 : decode kY_TrustDeskModel_readClause.2.1 44 = .ok (.bipush 44, 2) := by decide +kernel
theorem d_TrustDeskModel_readClause_46 : decode kY_TrustDeskModel_readClause.2.1 46 = .ok (.iaload, 1) := by decide +kernel
theorem d_TrustDeskModel_readClause_47 : decode kY_TrustDeskModel_readClause.2.1 47 = .ok (.bipush 12, 2) := by decide +kernel
theorem d_TrustDeskModel_readClause_49 : decode kY_TrustDeskModel_readClause.2.1 49 = .ok (.if_icmp .eq 16, 3) := by decide +kernel
theorem d_TrustDeskModel_readClause_65 : decode kY_TrustDeskModel_readClause.2.1 65 = .ok (.aload_n 0, 1) := by decide +kernel
theorem d_TrustDeskModel_readClause_66 : decode kY_TrustDeskModel_readClause.2.1 66 = .ok (.iconst 4, 1) := by decide +kernel
theorem d_TrustDeskModel_readClause_67 : decode kY_TrustDeskModel_readClause.2.1 67 = .ok (.invokevirtual 240, 3) := by decide +kernel
theorem d_TrustDeskModel_readClause_70 : decode kY_TrustDeskModel_readClause.2.1 70 = .ok (.aload_n 0, 1) := by decide +kernel
theorem d_TrustDeskModel_readClause_71 : decode kY_TrustDeskModel_readClause.2.1 71 = .ok (.invokevirtual 230, 3) := by decide +kernel
theorem d_TrustDeskModel_readClause_74 : decode kY_TrustDeskModel_readClause.2.1 74 = .ok (.ifCond .ne 4, 3) := by decide +kernel
theorem d_TrustDeskModel_readClause_77 : decode kY_TrustDeskModel_readClause.2.1 77 = .ok (.return_, 1) := by decide +kernel
theorem d_TrustDeskModel_readClause_52 : decode kY_TrustDeskModel_readClause.2.1 52 = .ok (.iload_n 1, 1) := by decide +kernel
theorem d_TrustDeskModel_readClause_53 : decode kY_TrustDeskModel_readClause.2.1 53 = .ok (.ifCond .eq 17, 3) := by decide +kernel
theorem d_TrustDeskModel_readClause_56 : decode kY_TrustDeskModel_readClause.2.1 56 = .ok (.aload_n 0, 1) := by decide +kernel
theorem d_TrustDeskModel_readClause_57 : decode kY_TrustDeskModel_readClause.2.1 57 = .ok (.getfield 321, 3) := by decide +kernel
theorem d_TrustDeskModel_readClause_60 : decode kY_TrustDeskModel_readClause.2.1 60 = .ok (.bipush 6, 2) := by decide +kernel
theorem d_TrustDeskModel_readClause_62 : decode kY_TrustDeskModel_readClause.2.1 62 = .ok (.if_icmp .ne 8, 3) := by decide +kernel
theorem d_TrustDeskModel_readClause_78 : decode kY_TrustDeskModel_readClause.2.1 78 = .ok (.aload_n 0, 1) := by decide +kernel
theorem d_TrustDeskModel_readClause_79 : decode kY_TrustDeskModel_readClause.2.1 79 = .ok (.ldc_w 338, 3) := by decide +kernel
theorem d_TrustDeskModel_readClause_82 : decode kY_TrustDeskModel_readClause.2.1 82 = .ok (.invokevirtual 244, 3) := by decide +kernel
def w_TrustDeskModel_isWord_s1_43_x : List Nat := []
set_option maxHeartbeats 100000000 in theorem tc_TrustDeskModel_isWord_s1_43_x {g : mj_G} {l : Launch} {d : Nat} {T0 : tm_H} {M0 : mj_M} {n0 x9 : Nat} {o0 : Nat} (h_o0 : T0 o0 = some (0, 13, 0)) (yR : rI M0 o0) (I0 : tm_I tm_FT (tm_in w_TrustDeskModel_isWord_s1_43_x) x9 T0 M0 n0 T0 M0 n0) : mj_Met g l kY_TrustDeskModel_isWord (d + 4) [.ref o0, .ref 43] M0 n0 0 0 (tm_Q tm_FT (tm_in w_TrustDeskModel_isWord_s1_43_x) x9 T0 M0 n0 (fun r _ M => ∃ v : Int32, r = some (.int v) ∧ 0 ≤ v.toInt ∧ v.toInt ≤ 1 ∧ rI M o0 ∧ (v.toInt = 1 → rv M0 o0 17 = 3) ∧ (v.toInt = 1 → rv M0 o0 17 = 3 ∧ rv M0 o0 15 - rv M0 o0 16 = 4 ∧ ra M0 o0 13 ((rv M0 o0 16).toNat + 0) = 109 ∧ ra M0 o0 13 ((rv M0 o0 16).toNat + 1) = 97 ∧ ra M0 o0 13 ((rv M0 o0 16).toNat + 2) = 114 ∧ ra M0 o0 13 ((rv M0 o0 16).toNat + 3) = 107) ∧ (v.toInt = 0 → ¬ (rv M0 o0 17 = 3 ∧ rv M0 o0 15 - rv M0 o0 16 = 4 ∧ ra M0 o0 13 ((rv M0 o0 16).toNat + 0) = 109 ∧ ra M0 o0 13 ((rv M0 o0 16).toNat + 1) = 97 ∧ ra M0 o0 13 ((rv M0 o0 16).toNat + 2) = 114 ∧ ra M0 o0 13 ((rv M0 o0 16).toNat + 3) = 107)))) := by
  refine mj_enter (by decide) (Nat.le_of_ble_eq_true rfl) ?_
  refine mv_aload_n d_TrustDeskModel_isWord_0 rfl rfl ?_
  obtain ⟨v2, q1⟩ := tm_atI I0 h_o0 (k := 17) rfl
  refine tr_getK q1 d_TrustDeskModel_isWord_1 f_TrustDeskModel_198_13 ?_
  have := tm_rv q1
  refine mv_iconst (v := 3) d_TrustDeskModel_isWord_4 (by decide) ?_
  have := mz_hi v2
  refine mv_icmp_neZ (tgt := 24) (a := v2.toInt) (b := 3) d_TrustDeskModel_isWord_5 (by decide) rfl (by decide) (fun b3 => ?_) (fun b3 => ?_)
  · refine mv_iconst (v := 0) d_TrustDeskModel_isWord_24 (by decide) ?_
    exact mv_iret d_TrustDeskModel_isWord_25 rfl (by decide) ⟨_, I0, _, rfl, by decide, by decide, yR, (fun h => absurd h (by decide)), (fun h => absurd h (by decide)), (fun _ h => by obtain ⟨h1, h2, h3, h4, h5, h6⟩ := h; have := yR.1 15 _ _ rfl; have := yR.1 16 _ _ rfl; have := yR.1 19 _ _ rfl; omega)⟩
  · refine mv_aload_n d_TrustDeskModel_isWord_8 rfl rfl ?_
    obtain ⟨v5, q4⟩ := tm_atI I0 h_o0 (k := 15) rfl
    refine tr_getK q4 d_TrustDeskModel_isWord_9 f_TrustDeskModel_192_13 ?_
    have := yR.f (k := 15) q4 rfl
    have := tm_rv q4
    refine mv_aload_n d_TrustDeskModel_isWord_12 rfl rfl ?_
    obtain ⟨v7, q6⟩ := tm_atI I0 h_o0 (k := 16) rfl
    refine tr_getK q6 d_TrustDeskModel_isWord_13 f_TrustDeskModel_195_13 ?_
    have := yR.f (k := 16) q6 rfl
    have := tm_rv q6
    refine mv_isub d_TrustDeskModel_isWord_16 ?_
    refine mv_aload_n d_TrustDeskModel_isWord_17 rfl rfl ?_
    refine mv_slenK (i := 33) (v := 4) d_TrustDeskModel_isWord_18 lV_TrustDeskModel_214 (by decide) rfl (by decide) (Nat.le_of_ble_eq_true rfl) ?_
    have b8 : (v5 - v7 : Int32).toInt = (v5.toInt - v7.toInt) := mz_sub2 rfl rfl (by have := yR.1 15 _ _ rfl; have := yR.1 16 _ _ rfl; have := yR.1 19 _ _ rfl; omega) (by have := yR.1 15 _ _ rfl; have := yR.1 16 _ _ rfl; have := yR.1 19 _ _ rfl; omega)
    have := mz_hi (v5 - v7)
    refine mv_icmp_eqZ (tgt := 26) (a := (v5 - v7).toInt) (b := 4) d_TrustDeskModel_isWord_21 (by decide) rfl (by decide) (fun b9 => ?_) (fun b9 => ?_)
    · refine mv_iconst (v := 0) d_TrustDeskModel_isWord_26 (by decide) ?_
      refine mv_istore_n (lv' := [(2, .int 0), (0, .ref o0), (1, .ref 43)]) d_TrustDeskModel_isWord_27 rfl (by decide) rfl ?_
      refine mv_iload_n d_TrustDeskModel_isWord_28 rfl rfl ?_
      refine mv_aload_n d_TrustDeskModel_isWord_29 rfl rfl ?_
      refine mv_slenK (i := 33) (v := 4) d_TrustDeskModel_isWord_30 lV_TrustDeskModel_214 (by decide) rfl (by decide) (Nat.le_of_ble_eq_true rfl) ?_
      refine mv_icmp_ge_f (tgt := 63) d_TrustDeskModel_isWord_33 (by decide) (by decide) ?_
      refine mv_aload_n d_TrustDeskModel_isWord_36 rfl rfl ?_
      obtain ⟨a11, q10, t_a11⟩ := tm_atR I0 h_o0 (k := 13) rfl
      refine tr_getK q10 d_TrustDeskModel_isWord_37 f_TrustDeskModel_44_13 ?_
      refine mv_aload_n d_TrustDeskModel_isWord_40 rfl rfl ?_
      refine tr_getK (k := 16) q6 d_TrustDeskModel_isWord_41 f_TrustDeskModel_195_13 ?_
      refine mv_iload_n d_TrustDeskModel_isWord_44 rfl rfl ?_
      refine mv_iadd d_TrustDeskModel_isWord_45 ?_
      have b12 : (v7 + 0 : Int32).toInt = (v7.toInt + 0) := mz_add2 rfl (by decide) (by have := yR.1 15 _ _ rfl; have := yR.1 16 _ _ rfl; have := yR.1 19 _ _ rfl; omega) (by have := yR.1 15 _ _ rfl; have := yR.1 16 _ _ rfl; have := yR.1 19 _ _ rfl; omega)
      refine tr_baldR (o := o0) (k := 13) I0 q10 t_a11 (by decide) d_TrustDeskModel_isWord_46 (vp_in_iff.mpr (by have := yR.1 15 _ _ rfl; have := yR.1 16 _ _ rfl; have := yR.1 19 _ _ rfl; omega)) (fun v13 e14 => ?_)
      have := yR.a (k := 13) rfl ((v7 + 0) : Int32).toNatClampNeg
      have h15 : (v7 + 0).toNatClampNeg = (rv M0 o0 16).toNat + 0 := by have := mz_nat9 (i := (v7 + 0)) (by have := yR.1 15 _ _ rfl; have := yR.1 16 _ _ rfl; have := yR.1 19 _ _ rfl; omega); have := yR.1 15 _ _ rfl; have := yR.1 16 _ _ rfl; have := yR.1 19 _ _ rfl; omega
      have : v13.toInt = ra M0 o0 13 ((rv M0 o0 16).toNat + 0) := by rw [e14, h15]
      refine mv_aload_n d_TrustDeskModel_isWord_47 rfl rfl ?_
      refine mv_iload_n d_TrustDeskModel_isWord_48 rfl rfl ?_
      refine mv_schC (i := 33) (v := 109) d_TrustDeskModel_isWord_49 lV_TrustDeskModel_220 (by decide) rfl (by decide) (by decide) (Nat.le_of_ble_eq_true rfl) (by decide) ?_
      have := mz_hi v13
      refine mv_icmp_eqZ (tgt := 57) (a := v13.toInt) (b := 109) d_TrustDeskModel_isWord_52 (by decide) rfl (by decide) (fun b16 => ?_) (fun b16 => ?_)
      · refine mv_iinc (v := 1) (lv' := [(2, .int 1), (0, .ref o0), (1, .ref 43)]) d_TrustDeskModel_isWord_57 rfl (by decide) (by decide) rfl ?_
        refine mv_goto (tgt := 28) d_TrustDeskModel_isWord_60 (by decide) ?_
        refine mv_iload_n d_TrustDeskModel_isWord_28 rfl rfl ?_
        refine mv_aload_n d_TrustDeskModel_isWord_29 rfl rfl ?_
        refine mv_slenK (i := 33) (v := 4) d_TrustDeskModel_isWord_30 lV_TrustDeskModel_214 (by decide) rfl (by decide) (Nat.le_of_ble_eq_true rfl) ?_
        refine mv_icmp_ge_f (tgt := 63) d_TrustDeskModel_isWord_33 (by decide) (by decide) ?_
        refine mv_aload_n d_TrustDeskModel_isWord_36 rfl rfl ?_
        refine tr_getK (k := 13) q10 d_TrustDeskModel_isWord_37 f_TrustDeskModel_44_13 ?_
        refine mv_aload_n d_TrustDeskModel_isWord_40 rfl rfl ?_
        refine tr_getK (k := 16) q6 d_TrustDeskModel_isWord_41 f_TrustDeskModel_195_13 ?_
        refine mv_iload_n d_TrustDeskModel_isWord_44 rfl rfl ?_
        refine mv_iadd d_TrustDeskModel_isWord_45 ?_
        have b17 : (v7 + 1 : Int32).toInt = (v7.toInt + 1) := mz_add2 rfl (by decide) (by have := yR.1 15 _ _ rfl; have := yR.1 16 _ _ rfl; have := yR.1 19 _ _ rfl; omega) (by have := yR.1 15 _ _ rfl; have := yR.1 16 _ _ rfl; have := yR.1 19 _ _ rfl; omega)
        refine tr_baldR (o := o0) (k := 13) I0 q10 t_a11 (by decide) d_TrustDeskModel_isWord_46 (vp_in_iff.mpr (by have := yR.1 15 _ _ rfl; have := yR.1 16 _ _ rfl; have := yR.1 19 _ _ rfl; omega)) (fun v18 e19 => ?_)
        have := yR.a (k := 13) rfl ((v7 + 1) : Int32).toNatClampNeg
        have h20 : (v7 + 1).toNatClampNeg = (rv M0 o0 16).toNat + 1 := by have := mz_nat9 (i := (v7 + 1)) (by have := yR.1 15 _ _ rfl; have := yR.1 16 _ _ rfl; have := yR.1 19 _ _ rfl; omega); have := yR.1 15 _ _ rfl; have := yR.1 16 _ _ rfl; have := yR.1 19 _ _ rfl; omega
        have : v18.toInt = ra M0 o0 13 ((rv M0 o0 16).toNat + 1) := by rw [e19, h20]
        refine mv_aload_n d_TrustDeskModel_isWord_47 rfl rfl ?_
        refine mv_iload_n d_TrustDeskModel_isWord_48 rfl rfl ?_
        refine mv_schC (i := 33) (v := 97) d_TrustDeskModel_isWord_49 lV_TrustDeskModel_220 (by decide) rfl (by decide) (by decide) (Nat.le_of_ble_eq_true rfl) (by decide) ?_
        have := mz_hi v18
        refine mv_icmp_eqZ (tgt := 57) (a := v18.toInt) (b := 97) d_TrustDeskModel_isWord_52 (by decide) rfl (by decide) (fun b21 => ?_) (fun b21 => ?_)
        · refine mv_iinc (v := 2) (lv' := [(2, .int 2), (0, .ref o0), (1, .ref 43)]) d_TrustDeskModel_isWord_57 rfl (by decide) (by decide) rfl ?_
          refine mv_goto (tgt := 28) d_TrustDeskModel_isWord_60 (by decide) ?_
          refine mv_iload_n d_TrustDeskModel_isWord_28 rfl rfl ?_
          refine mv_aload_n d_TrustDeskModel_isWord_29 rfl rfl ?_
          refine mv_slenK (i := 33) (v := 4) d_TrustDeskModel_isWord_30 lV_TrustDeskModel_214 (by decide) rfl (by decide) (Nat.le_of_ble_eq_true rfl) ?_
          refine mv_icmp_ge_f (tgt := 63) d_TrustDeskModel_isWord_33 (by decide) (by decide) ?_
          refine mv_aload_n d_TrustDeskModel_isWord_36 rfl rfl ?_
          refine tr_getK (k := 13) q10 d_TrustDeskModel_isWord_37 f_TrustDeskModel_44_13 ?_
          refine mv_aload_n d_TrustDeskModel_isWord_40 rfl rfl ?_
          refine tr_getK (k := 16) q6 d_TrustDeskModel_isWord_41 f_TrustDeskModel_195_13 ?_
          refine mv_iload_n d_TrustDeskModel_isWord_44 rfl rfl ?_
          refine mv_iadd d_TrustDeskModel_isWord_45 ?_
          have b22 : (v7 + 2 : Int32).toInt = (v7.toInt + 2) := mz_add2 rfl (by decide) (by have := yR.1 15 _ _ rfl; have := yR.1 16 _ _ rfl; have := yR.1 19 _ _ rfl; omega) (by have := yR.1 15 _ _ rfl; have := yR.1 16 _ _ rfl; have := yR.1 19 _ _ rfl; omega)
          refine tr_baldR (o := o0) (k := 13) I0 q10 t_a11 (by decide) d_TrustDeskModel_isWord_46 (vp_in_iff.mpr (by have := yR.1 15 _ _ rfl; have := yR.1 16 _ _ rfl; have := yR.1 19 _ _ rfl; omega)) (fun v23 e24 => ?_)
          have := yR.a (k := 13) rfl ((v7 + 2) : Int32).toNatClampNeg
          have h25 : (v7 + 2).toNatClampNeg = (rv M0 o0 16).toNat + 2 := by have := mz_nat9 (i := (v7 + 2)) (by have := yR.1 15 _ _ rfl; have := yR.1 16 _ _ rfl; have := yR.1 19 _ _ rfl; omega); have := yR.1 15 _ _ rfl; have := yR.1 16 _ _ rfl; have := yR.1 19 _ _ rfl; omega
          have : v23.toInt = ra M0 o0 13 ((rv M0 o0 16).toNat + 2) := by rw [e24, h25]
          refine mv_aload_n d_TrustDeskModel_isWord_47 rfl rfl ?_
          refine mv_iload_n d_TrustDeskModel_isWord_48 rfl rfl ?_
          refine mv_schC (i := 33) (v := 114) d_TrustDeskModel_isWord_49 lV_TrustDeskModel_220 (by decide) rfl (by decide) (by decide) (Nat.le_of_ble_eq_true rfl) (by decide) ?_
          have := mz_hi v23
          refine mv_icmp_eqZ (tgt := 57) (a := v23.toInt) (b := 114) d_TrustDeskModel_isWord_52 (by decide) rfl (by decide) (fun b26 => ?_) (fun b26 => ?_)
          · refine mv_iinc (v := 3) (lv' := [(2, .int 3), (0, .ref o0), (1, .ref 43)]) d_TrustDeskModel_isWord_57 rfl (by decide) (by decide) rfl ?_
            refine mv_goto (tgt := 28) d_TrustDeskModel_isWord_60 (by decide) ?_
            refine mv_iload_n d_TrustDeskModel_isWord_28 rfl rfl ?_
            refine mv_aload_n d_TrustDeskModel_isWord_29 rfl rfl ?_
            refine mv_slenK (i := 33) (v := 4) d_TrustDeskModel_isWord_30 lV_TrustDeskModel_214 (by decide) rfl (by decide) (Nat.le_of_ble_eq_true rfl) ?_
            refine mv_icmp_ge_f (tgt := 63) d_TrustDeskModel_isWord_33 (by decide) (by decide) ?_
            refine mv_aload_n d_TrustDeskModel_isWord_36 rfl rfl ?_
            refine tr_getK (k := 13) q10 d_TrustDeskModel_isWord_37 f_TrustDeskModel_44_13 ?_
            refine mv_aload_n d_TrustDeskModel_isWord_40 rfl rfl ?_
            refine tr_getK (k := 16) q6 d_TrustDeskModel_isWord_41 f_TrustDeskModel_195_13 ?_
            refine mv_iload_n d_TrustDeskModel_isWord_44 rfl rfl ?_
            refine mv_iadd d_TrustDeskModel_isWord_45 ?_
            have b27 : (v7 + 3 : Int32).toInt = (v7.toInt + 3) := mz_add2 rfl (by decide) (by have := yR.1 15 _ _ rfl; have := yR.1 16 _ _ rfl; have := yR.1 19 _ _ rfl; omega) (by have := yR.1 15 _ _ rfl; have := yR.1 16 _ _ rfl; have := yR.1 19 _ _ rfl; omega)
            refine tr_baldR (o := o0) (k := 13) I0 q10 t_a11 (by decide) d_TrustDeskModel_isWord_46 (vp_in_iff.mpr (by have := yR.1 15 _ _ rfl; have := yR.1 16 _ _ rfl; have := yR.1 19 _ _ rfl; omega)) (fun v28 e29 => ?_)
            have := yR.a (k := 13) rfl ((v7 + 3) : Int32).toNatClampNeg
            have h30 : (v7 + 3).toNatClampNeg = (rv M0 o0 16).toNat + 3 := by have := mz_nat9 (i := (v7 + 3)) (by have := yR.1 15 _ _ rfl; have := yR.1 16 _ _ rfl; have := yR.1 19 _ _ rfl; omega); have := yR.1 15 _ _ rfl; have := yR.1 16 _ _ rfl; have := yR.1 19 _ _ rfl; omega
            have : v28.toInt = ra M0 o0 13 ((rv M0 o0 16).toNat + 3) := by rw [e29, h30]
            refine mv_aload_n d_TrustDeskModel_isWord_47 rfl rfl ?_
            refine mv_iload_n d_TrustDeskModel_isWord_48 rfl rfl ?_
            refine mv_schC (i := 33) (v := 107) d_TrustDeskModel_isWord_49 lV_TrustDeskModel_220 (by decide) rfl (by decide) (by decide) (Nat.le_of_ble_eq_true rfl) (by decide) ?_
            have := mz_hi v28
            refine mv_icmp_eqZ (tgt := 57) (a := v28.toInt) (b := 107) d_TrustDeskModel_isWord_52 (by decide) rfl (by decide) (fun b31 => ?_) (fun b31 => ?_)
            · refine mv_iinc (v := 4) (lv' := [(2, .int 4), (0, .ref o0), (1, .ref 43)]) d_TrustDeskModel_isWord_57 rfl (by decide) (by decide) rfl ?_
              refine mv_goto (tgt := 28) d_TrustDeskModel_isWord_60 (by decide) ?_
              refine mv_iload_n d_TrustDeskModel_isWord_28 rfl rfl ?_
              refine mv_aload_n d_TrustDeskModel_isWord_29 rfl rfl ?_
              refine mv_slenK (i := 33) (v := 4) d_TrustDeskModel_isWord_30 lV_TrustDeskModel_214 (by decide) rfl (by decide) (Nat.le_of_ble_eq_true rfl) ?_
              refine mv_icmp_ge_t (tgt := 63) d_TrustDeskModel_isWord_33 (by decide) (by decide) ?_
              refine mv_iconst (v := 1) d_TrustDeskModel_isWord_63 (by decide) ?_
              exact mv_iret d_TrustDeskModel_isWord_64 rfl (by decide) ⟨_, I0, _, rfl, by decide, by decide, yR, (fun _ => by have := yR.1 15 _ _ rfl; have := yR.1 16 _ _ rfl; have := yR.1 19 _ _ rfl; omega), (fun _ => ⟨by have := yR.1 15 _ _ rfl; have := yR.1 16 _ _ rfl; have := yR.1 19 _ _ rfl; omega, by have := yR.1 15 _ _ rfl; have := yR.1 16 _ _ rfl; have := yR.1 19 _ _ rfl; omega, by have := yR.1 15 _ _ rfl; have := yR.1 16 _ _ rfl; have := yR.1 19 _ _ rfl; omega, by have := yR.1 15 _ _ rfl; have := yR.1 16 _ _ rfl; have := yR.1 19 _ _ rfl; omega, by have := yR.1 15 _ _ rfl; have := yR.1 16 _ _ rfl; have := yR.1 19 _ _ rfl; omega, by have := yR.1 15 _ _ rfl; have := yR.1 16 _ _ rfl; have := yR.1 19 _ _ rfl; omega⟩), (fun h => absurd h (by decide))⟩
            · refine mv_iconst (v := 0) d_TrustDeskModel_isWord_55 (by decide) ?_
              exact mv_iret d_TrustDeskModel_isWord_56 rfl (by decide) ⟨_, I0, _, rfl, by decide, by decide, yR, (fun h => absurd h (by decide)), (fun h => absurd h (by decide)), (fun _ h => by obtain ⟨h1, h2, h3, h4, h5, h6⟩ := h; have := yR.1 15 _ _ rfl; have := yR.1 16 _ _ rfl; have := yR.1 19 _ _ rfl; omega)⟩
          · refine mv_iconst (v := 0) d_TrustDeskModel_isWord_55 (by decide) ?_
            exact mv_iret d_TrustDeskModel_isWord_56 rfl (by decide) ⟨_, I0, _, rfl, by decide, by decide, yR, (fun h => absurd h (by decide)), (fun h => absurd h (by decide)), (fun _ h => by obtain ⟨h1, h2, h3, h4, h5, h6⟩ := h; have := yR.1 15 _ _ rfl; have := yR.1 16 _ _ rfl; have := yR.1 19 _ _ rfl; omega)⟩
        · refine mv_iconst (v := 0) d_TrustDeskModel_isWord_55 (by decide) ?_
          exact mv_iret d_TrustDeskModel_isWord_56 rfl (by decide) ⟨_, I0, _, rfl, by decide, by decide, yR, (fun h => absurd h (by decide)), (fun h => absurd h (by decide)), (fun _ h => by obtain ⟨h1, h2, h3, h4, h5, h6⟩ := h; have := yR.1 15 _ _ rfl; have := yR.1 16 _ _ rfl; have := yR.1 19 _ _ rfl; omega)⟩
      · refine mv_iconst (v := 0) d_TrustDeskModel_isWord_55 (by decide) ?_
        exact mv_iret d_TrustDeskModel_isWord_56 rfl (by decide) ⟨_, I0, _, rfl, by decide, by decide, yR, (fun h => absurd h (by decide)), (fun h => absurd h (by decide)), (fun _ h => by obtain ⟨h1, h2, h3, h4, h5, h6⟩ := h; have := yR.1 15 _ _ rfl; have := yR.1 16 _ _ rfl; have := yR.1 19 _ _ rfl; omega)⟩
    · refine mv_iconst (v := 0) d_TrustDeskModel_isWord_24 (by decide) ?_
      exact mv_iret d_TrustDeskModel_isWord_25 rfl (by decide) ⟨_, I0, _, rfl, by decide, by decide, yR, (fun h => absurd h (by decide)), (fun h => absurd h (by decide)), (fun _ h => by obtain ⟨h1, h2, h3, h4, h5, h6⟩ := h; have := yR.1 15 _ _ rfl; have := yR.1 16 _ _ rfl; have := yR.1 19 _ _ rfl; omega)⟩
theorem d_TrustDeskModel_readClause_85 : decode kY_TrustDeskModel_readClause.2.1 85 = .ok (.istore_n 2, 1) := by decide +kernel
theorem d_TrustDeskModel_readClause_86 : decode kY_TrustDeskModel_readClause.2.1 86 = .ok (.aload_n 0, 1) := by decide +kernel
theorem d_TrustDeskModel_readClause_87 : decode kY_TrustDeskModel_readClause.2.1 87 = .ok (.iload_n 1, 1) := by decide +kernel
theorem d_TrustDeskModel_readClause_88 : decode kY_TrustDeskModel_readClause.2.1 88 = .ok (.ifCond .eq 8, 3) := by decide +kernel
theorem d_TrustDeskModel_readClause_91 : decode kY_TrustDeskModel_readClause.2.1 91 = .ok (.bipush 8, 2) := by decide +kernel
theorem d_TrustDeskModel_readClause_93 : decode kY_TrustDeskModel_readClause.2.1 93 = .ok (.goto 14, 3) := by decide +kernel
theorem d_TrustDeskModel_readClause_107 : decode kY_TrustDeskModel_readClause.2.1 107 = .ok (.invokevirtual 342, 3) := by decide +kernel
theorem lV_TrustDeskModel_342 : mj_lV "TrustDeskModel" 342 kY_TrustDeskModel_begin 1 := ⟨⟨(mj_in1 (List.mem_of_getElem? (i := 1691) (by decide +kernel)) rfl), (mj_in1 (List.mem_of_getElem? (i := 10) (by decide +kernel)) rfl), (mj_in1 (List.mem_of_getElem? (i := 1694) (by decide +kernel)) rfl), by decide, rfl, by decide⟩, (mj_in1 (List.mem_of_getElem? (i := 1693) (by decide +kernel)) rfl), (mj_in (List.mem_append_left _ (List.mem_of_getElem? (i := 88) (by decide +kernel))) rfl)⟩
theorem d_TrustDeskModel_readClause_110 : decode kY_TrustDeskModel_readClause.2.1 110 = .ok (.istore_n 3, 1) := by decide +kernel
theorem d_TrustDeskModel_readClause_111 : decode kY_TrustDeskModel_readClause.2.1 111 = .ok (.iload_n 1, 1) := by decide +kernel
theorem d_TrustDeskModel_readClause_112 : decode kY_TrustDeskModel_readClause.2.1 112 = .ok (.ifCond .eq 11, 3) := by decide +kernel
theorem d_TrustDeskModel_readClause_115 : decode kY_TrustDeskModel_readClause.2.1 115 = .ok (.aload_n 0, 1) := by decide +kernel
theorem d_TrustDeskModel_readClause_116 : decode kY_TrustDeskModel_readClause.2.1 116 = .ok (.iload_n 3, 1) := by decide +kernel
theorem d_TrustDeskModel_readClause_117 : decode kY_TrustDeskModel_readClause.2.1 117 = .ok (.invokevirtual 345, 3) := by decide +kernel
theorem lV_TrustDeskModel_345 : mj_lV "TrustDeskModel" 345 kY_TrustDeskModel_readEnd 1 := ⟨⟨(mj_in1 (List.mem_of_getElem? (i := 1802) (by decide +kernel)) rfl), (mj_in1 (List.mem_of_getElem? (i := 10) (by decide +kernel)) rfl), (mj_in1 (List.mem_of_getElem? (i := 1805) (by decide +kernel)) rfl), by decide, rfl, by decide⟩, (mj_in1 (List.mem_of_getElem? (i := 1804) (by decide +kernel)) rfl), (mj_in (List.mem_append_left _ (List.mem_of_getElem? (i := 107) (by decide +kernel))) rfl)⟩
theorem d_TrustDeskModel_readClause_120 : decode kY_TrustDeskModel_readClause.2.1 120 = .ok (.goto 45, 3) := by decide +kernel
theorem d_TrustDeskModel_readClause_165 : decode kY_TrustDeskModel_readClause.2.1 165 = .ok (.aload_n 0, 1) := by decide +kernel
theorem d_TrustDeskModel_readClause_166 : decode kY_TrustDeskModel_readClause.2.1 166 = .ok (.bipush 59, 2) := by decide +kernel
theorem d_TrustDeskModel_readClause_168 : decode kY_TrustDeskModel_readClause.2.1 168 = .ok (.invokevirtual 291, 3) := by decide +kernel
theorem d_TrustDeskModel_readClause_171 : decode kY_TrustDeskModel_readClause.2.1 171 = .ok (.aload_n 0, 1) := by decide +kernel
theorem d_TrustDeskModel_readClause_172 : decode kY_TrustDeskModel_readClause.2.1 172 = .ok (.getfield 41, 3) := by decide +kernel
theorem f_TrustDeskModel_41_13 : mj_fl "TrustDeskModel" 41 13 12 := ⟨kR_TrustDeskModel, kF_TrustDeskModel, 72, "TrustDeskModel", rfl, kg_13, by decide, (mj_in1 (List.mem_of_getElem? (i := 1398) (by decide +kernel)) rfl), Or.inl rfl⟩
theorem d_TrustDeskModel_readClause_175 : decode kY_TrustDeskModel_readClause.2.1 175 = .ok (.iload_n 3, 1) := by decide +kernel
theorem d_TrustDeskModel_readClause_176 : decode kY_TrustDeskModel_readClause.2.1 176 = .ok (.aload_n 0, 1) := by decide +kernel
theorem d_TrustDeskModel_readClause_177 : decode kY_TrustDeskModel_readClause.2.1 177 = .ok (.getfield 20, 3) := by decide +kernel
theorem d_TrustDeskModel_readClause_180 : decode kY_TrustDeskModel_readClause.2.1 180 = .ok (.bipush 44, 2) := by decide +kernel
theorem d_TrustDeskModel_readClause_182 : decode kY_TrustDeskModel_readClause.2.1 182 = .ok (.iaload, 1) := by decide +kernel
theorem d_TrustDeskModel_readClause_183 : decode kY_TrustDeskModel_readClause.2.1 183 = .ok (.iastore, 1) := by decide +kernel
theorem d_TrustDeskModel_readClause_184 : decode kY_TrustDeskModel_readClause.2.1 184 = .ok (.return_, 1) := by decide +kernel
theorem d_TrustDeskModel_readClause_12 : decode kY_TrustDeskModel_readClause.2.1 12 = .ok (.aload_n 0, 1) := by decide +kernel
theorem d_TrustDeskModel_readClause_13 : decode kY_TrustDeskModel_readClause.2.1 13 = .ok (.ldc_w 338, 3) := by decide +kernel
theorem d_TrustDeskModel_readClause_16 : decode kY_TrustDeskModel_readClause.2.1 16 = .ok (.invokevirtual 244, 3) := by decide +kernel
theorem d_TrustDeskModel_readClause_19 : decode kY_TrustDeskModel_readClause.2.1 19 = .ok (.ifCond .ne 21, 3) := by decide +kernel
theorem d_TrustDeskModel_readClause_96 : decode kY_TrustDeskModel_readClause.2.1 96 = .ok (.iload_n 2, 1) := by decide +kernel
theorem d_TrustDeskModel_readClause_97 : decode kY_TrustDeskModel_readClause.2.1 97 = .ok (.ifCond .eq 8, 3) := by decide +kernel
theorem d_TrustDeskModel_readClause_105 : decode kY_TrustDeskModel_readClause.2.1 105 = .ok (.bipush 9, 2) := by decide +kernel
theorem d_TrustDeskModel_readClause_123 : decode kY_TrustDeskModel_readClause.2.1 123 = .ok (.iload_n 2, 1) := by decide +kernel
theorem d_TrustDeskModel_readClause_124 : decode kY_TrustDeskModel_readClause.2.1 124 = .ok (.ifCond .eq 11, 3) := by decide +kernel
theorem d_TrustDeskModel_readClause_135 : decode kY_TrustDeskModel_readClause.2.1 135 = .ok (.aload_n 0, 1) := by decide +kernel
theorem d_TrustDeskModel_readClause_136 : decode kY_TrustDeskModel_readClause.2.1 136 = .ok (.getfield 29, 3) := by decide +kernel
theorem d_TrustDeskModel_readClause_139 : decode kY_TrustDeskModel_readClause.2.1 139 = .ok (.iload_n 3, 1) := by decide +kernel
theorem d_TrustDeskModel_readClause_140 : decode kY_TrustDeskModel_readClause.2.1 140 = .ok (.aload_n 0, 1) := by decide +kernel
theorem d_TrustDeskModel_readClause_141 : decode kY_TrustDeskModel_readClause.2.1 141 = .ok (.iconst 1, 1) := by decide +kernel
theorem d_TrustDeskModel_readClause_142 : decode kY_TrustDeskModel_readClause.2.1 142 = .ok (.bipush 7, 2) := by decide +kernel
theorem d_TrustDeskModel_readClause_144 : decode kY_TrustDeskModel_readClause.2.1 144 = .ok (.invokevirtual 317, 3) := by decide +kernel
theorem d_TrustDeskModel_readClause_147 : decode kY_TrustDeskModel_readClause.2.1 147 = .ok (.iastore, 1) := by decide +kernel
theorem d_TrustDeskModel_readClause_148 : decode kY_TrustDeskModel_readClause.2.1 148 = .ok (.aload_n 0, 1) := by decide +kernel
theorem d_TrustDeskModel_readClause_149 : decode kY_TrustDeskModel_readClause.2.1 149 = .ok (.getfield 32, 3) := by decide +kernel
theorem d_TrustDeskModel_readClause_152 : decode kY_TrustDeskModel_readClause.2.1 152 = .ok (.iload_n 3, 1) := by decide +kernel
theorem d_TrustDeskModel_readClause_153 : decode kY_TrustDeskModel_readClause.2.1 153 = .ok (.aload_n 0, 1) := by decide +kernel
theorem d_TrustDeskModel_readClause_154 : decode kY_TrustDeskModel_readClause.2.1 154 = .ok (.iconst 1, 1) := by decide +kernel
theorem d_TrustDeskModel_readClause_155 : decode kY_TrustDeskModel_readClause.2.1 155 = .ok (.aload_n 0, 1) := by decide +kernel
theorem d_TrustDeskModel_readClause_156 : decode kY_TrustDeskModel_readClause.2.1 156 = .ok (.getfield 29, 3) := by decide +kernel
theorem d_TrustDeskModel_readClause_159 : decode kY_TrustDeskModel_readClause.2.1 159 = .ok (.iload_n 3, 1) := by decide +kernel
theorem d_TrustDeskModel_readClause_160 : decode kY_TrustDeskModel_readClause.2.1 160 = .ok (.iaload, 1) := by decide +kernel
theorem d_TrustDeskModel_readClause_161 : decode kY_TrustDeskModel_readClause.2.1 161 = .ok (.invokevirtual 317, 3) := by decide +kernel
theorem d_TrustDeskModel_readClause_164 : decode kY_TrustDeskModel_readClause.2.1 164 = .ok (.iastore, 1) := by decide +kernel
theorem d_TrustDeskModel_readClause_100 : decode kY_TrustDeskModel_readClause.2.1 100 = .ok (.bipush 7, 2) := by decide +kernel
theorem d_TrustDeskModel_readClause_102 : decode kY_TrustDeskModel_readClause.2.1 102 = .ok (.goto 5, 3) := by decide +kernel
theorem d_TrustDeskModel_readClause_127 : decode kY_TrustDeskModel_readClause.2.1 127 = .ok (.aload_n 0, 1) := by decide +kernel
theorem d_TrustDeskModel_readClause_128 : decode kY_TrustDeskModel_readClause.2.1 128 = .ok (.iload_n 3, 1) := by decide +kernel
theorem d_TrustDeskModel_readClause_129 : decode kY_TrustDeskModel_readClause.2.1 129 = .ok (.invokevirtual 348, 3) := by decide +kernel
theorem lV_TrustDeskModel_348 : mj_lV "TrustDeskModel" 348 kY_TrustDeskModel_readMarks 1 := ⟨⟨(mj_in1 (List.mem_of_getElem? (i := 1812) (by decide +kernel)) rfl), (mj_in1 (List.mem_of_getElem? (i := 10) (by decide +kernel)) rfl), (mj_in1 (List.mem_of_getElem? (i := 1815) (by decide +kernel)) rfl), by decide, rfl, by decide⟩, (mj_in1 (List.mem_of_getElem? (i := 1814) (by decide +kernel)) rfl), (mj_in (List.mem_append_left _ (List.mem_of_getElem? (i := 109) (by decide +kernel))) rfl)⟩
theorem d_TrustDeskModel_readClause_132 : decode kY_TrustDeskModel_readClause.2.1 132 = .ok (.goto 33, 3) := by decide +kernel
theorem d_TrustDeskModel_readClause_22 : decode kY_TrustDeskModel_readClause.2.1 22 = .ok (.aload_n 0, 1) := by decide +kernel
theorem d_TrustDeskModel_readClause_23 : decode kY_TrustDeskModel_readClause.2.1 23 = .ok (.ldc_w 340, 3) := by decide +kernel
theorem d_TrustDeskModel_readClause_26 : decode kY_TrustDeskModel_readClause.2.1 26 = .ok (.invokevirtual 244, 3) := by decide +kernel
def w_TrustDeskModel_isWord_s1_44_x : List Nat := []
set_option maxHeartbeats 100000000 in theorem tc_TrustDeskModel_isWord_s1_44_x {g : mj_G} {l : Launch} {d : Nat} {T0 : tm_H} {M0 : mj_M} {n0 x9 : Nat} {o0 : Nat} (h_o0 : T0 o0 = some (0, 13, 0)) (yR : rI M0 o0) (I0 : tm_I tm_FT (tm_in w_TrustDeskModel_isWord_s1_44_x) x9 T0 M0 n0 T0 M0 n0) : mj_Met g l kY_TrustDeskModel_isWord (d + 4) [.ref o0, .ref 44] M0 n0 0 0 (tm_Q tm_FT (tm_in w_TrustDeskModel_isWord_s1_44_x) x9 T0 M0 n0 (fun r _ M => ∃ v : Int32, r = some (.int v) ∧ 0 ≤ v.toInt ∧ v.toInt ≤ 1 ∧ rI M o0 ∧ (v.toInt = 1 → rv M0 o0 17 = 3) ∧ (v.toInt = 1 → rv M0 o0 17 = 3 ∧ rv M0 o0 15 - rv M0 o0 16 = 5 ∧ ra M0 o0 13 ((rv M0 o0 16).toNat + 0) = 116 ∧ ra M0 o0 13 ((rv M0 o0 16).toNat + 1) = 114 ∧ ra M0 o0 13 ((rv M0 o0 16).toNat + 2) = 117 ∧ ra M0 o0 13 ((rv M0 o0 16).toNat + 3) = 115 ∧ ra M0 o0 13 ((rv M0 o0 16).toNat + 4) = 116) ∧ (v.toInt = 0 → ¬ (rv M0 o0 17 = 3 ∧ rv M0 o0 15 - rv M0 o0 16 = 5 ∧ ra M0 o0 13 ((rv M0 o0 16).toNat + 0) = 116 ∧ ra M0 o0 13 ((rv M0 o0 16).toNat + 1) = 114 ∧ ra M0 o0 13 ((rv M0 o0 16).toNat + 2) = 117 ∧ ra M0 o0 13 ((rv M0 o0 16).toNat + 3) = 115 ∧ ra M0 o0 13 ((rv M0 o0 16).toNat + 4) = 116)))) := by
  refine mj_enter (by decide) (Nat.le_of_ble_eq_true rfl) ?_
  refine mv_aload_n d_TrustDeskModel_isWord_0 rfl rfl ?_
  obtain ⟨v2, q1⟩ := tm_atI I0 h_o0 (k := 17) rfl
  refine tr_getK q1 d_TrustDeskModel_isWord_1 f_TrustDeskModel_198_13 ?_
  have := tm_rv q1
  refine mv_iconst (v := 3) d_TrustDeskModel_isWord_4 (by decide) ?_
  have := mz_hi v2
  refine mv_icmp_neZ (tgt := 24) (a := v2.toInt) (b := 3) d_TrustDeskModel_isWord_5 (by decide) rfl (by decide) (fun b3 => ?_) (fun b3 => ?_)
  · refine mv_iconst (v := 0) d_TrustDeskModel_isWord_24 (by decide) ?_
    exact mv_iret d_TrustDeskModel_isWord_25 rfl (by decide) ⟨_, I0, _, rfl, by decide, by decide, yR, (fun h => absurd h (by decide)), (fun h => absurd h (by decide)), (fun _ h => by obtain ⟨h1, h2, h3, h4, h5, h6, h7⟩ := h; have := yR.1 15 _ _ rfl; have := yR.1 16 _ _ rfl; have := yR.1 19 _ _ rfl; omega)⟩
  · refine mv_aload_n d_TrustDeskModel_isWord_8 rfl rfl ?_
    obtain ⟨v5, q4⟩ := tm_atI I0 h_o0 (k := 15) rfl
    refine tr_getK q4 d_TrustDeskModel_isWord_9 f_TrustDeskModel_192_13 ?_
    have := yR.f (k := 15) q4 rfl
    have := tm_rv q4
    refine mv_aload_n d_TrustDeskModel_isWord_12 rfl rfl ?_
    obtain ⟨v7, q6⟩ := tm_atI I0 h_o0 (k := 16) rfl
    refine tr_getK q6 d_TrustDeskModel_isWord_13 f_TrustDeskModel_195_13 ?_
    have := yR.f (k := 16) q6 rfl
    have := tm_rv q6
    refine mv_isub d_TrustDeskModel_isWord_16 ?_
    refine mv_aload_n d_TrustDeskModel_isWord_17 rfl rfl ?_
    refine mv_slenK (i := 34) (v := 5) d_TrustDeskModel_isWord_18 lV_TrustDeskModel_214 (by decide) rfl (by decide) (Nat.le_of_ble_eq_true rfl) ?_
    have b8 : (v5 - v7 : Int32).toInt = (v5.toInt - v7.toInt) := mz_sub2 rfl rfl (by have := yR.1 15 _ _ rfl; have := yR.1 16 _ _ rfl; have := yR.1 19 _ _ rfl; omega) (by have := yR.1 15 _ _ rfl; have := yR.1 16 _ _ rfl; have := yR.1 19 _ _ rfl; omega)
    have := mz_hi (v5 - v7)
    refine mv_icmp_eqZ (tgt := 26) (a := (v5 - v7).toInt) (b := 5) d_TrustDeskModel_isWord_21 (by decide) rfl (by decide) (fun b9 => ?_) (fun b9 => ?_)
    · refine mv_iconst (v := 0) d_TrustDeskModel_isWord_26 (by decide) ?_
      refine mv_istore_n (lv' := [(2, .int 0), (0, .ref o0), (1, .ref 44)]) d_TrustDeskModel_isWord_27 rfl (by decide) rfl ?_
      refine mv_iload_n d_TrustDeskModel_isWord_28 rfl rfl ?_
      refine mv_aload_n d_TrustDeskModel_isWord_29 rfl rfl ?_
      refine mv_slenK (i := 34) (v := 5) d_TrustDeskModel_isWord_30 lV_TrustDeskModel_214 (by decide) rfl (by decide) (Nat.le_of_ble_eq_true rfl) ?_
      refine mv_icmp_ge_f (tgt := 63) d_TrustDeskModel_isWord_33 (by decide) (by decide) ?_
      refine mv_aload_n d_TrustDeskModel_isWord_36 rfl rfl ?_
      obtain ⟨a11, q10, t_a11⟩ := tm_atR I0 h_o0 (k := 13) rfl
      refine tr_getK q10 d_TrustDeskModel_isWord_37 f_TrustDeskModel_44_13 ?_
      refine mv_aload_n d_TrustDeskModel_isWord_40 rfl rfl ?_
      refine tr_getK (k := 16) q6 d_TrustDeskModel_isWord_41 f_TrustDeskModel_195_13 ?_
      refine mv_iload_n d_TrustDeskModel_isWord_44 rfl rfl ?_
      refine mv_iadd d_TrustDeskModel_isWord_45 ?_
      have b12 : (v7 + 0 : Int32).toInt = (v7.toInt + 0) := mz_add2 rfl (by decide) (by have := yR.1 15 _ _ rfl; have := yR.1 16 _ _ rfl; have := yR.1 19 _ _ rfl; omega) (by have := yR.1 15 _ _ rfl; have := yR.1 16 _ _ rfl; have := yR.1 19 _ _ rfl; omega)
      refine tr_baldR (o := o0) (k := 13) I0 q10 t_a11 (by decide) d_TrustDeskModel_isWord_46 (vp_in_iff.mpr (by have := yR.1 15 _ _ rfl; have := yR.1 16 _ _ rfl; have := yR.1 19 _ _ rfl; omega)) (fun v13 e14 => ?_)
      have := yR.a (k := 13) rfl ((v7 + 0) : Int32).toNatClampNeg
      have h15 : (v7 + 0).toNatClampNeg = (rv M0 o0 16).toNat + 0 := by have := mz_nat9 (i := (v7 + 0)) (by have := yR.1 15 _ _ rfl; have := yR.1 16 _ _ rfl; have := yR.1 19 _ _ rfl; omega); have := yR.1 15 _ _ rfl; have := yR.1 16 _ _ rfl; have := yR.1 19 _ _ rfl; omega
      have : v13.toInt = ra M0 o0 13 ((rv M0 o0 16).toNat + 0) := by rw [e14, h15]
      refine mv_aload_n d_TrustDeskModel_isWord_47 rfl rfl ?_
      refine mv_iload_n d_TrustDeskModel_isWord_48 rfl rfl ?_
      refine mv_schC (i := 34) (v := 116) d_TrustDeskModel_isWord_49 lV_TrustDeskModel_220 (by decide) rfl (by decide) (by decide) (Nat.le_of_ble_eq_true rfl) (by decide) ?_
      have := mz_hi v13
      refine mv_icmp_eqZ (tgt := 57) (a := v13.toInt) (b := 116) d_TrustDeskModel_isWord_52 (by decide) rfl (by decide) (fun b16 => ?_) (fun b16 => ?_)
      · refine mv_iinc (v := 1) (lv' := [(2, .int 1), (0, .ref o0), (1, .ref 44)]) d_TrustDeskModel_isWord_57 rfl (by decide) (by decide) rfl ?_
        refine mv_goto (tgt := 28) d_TrustDeskModel_isWord_60 (by decide) ?_
        refine mv_iload_n d_TrustDeskModel_isWord_28 rfl rfl ?_
        refine mv_aload_n d_TrustDeskModel_isWord_29 rfl rfl ?_
        refine mv_slenK (i := 34) (v := 5) d_TrustDeskModel_isWord_30 lV_TrustDeskModel_214 (by decide) rfl (by decide) (Nat.le_of_ble_eq_true rfl) ?_
        refine mv_icmp_ge_f (tgt := 63) d_TrustDeskModel_isWord_33 (by decide) (by decide) ?_
        refine mv_aload_n d_TrustDeskModel_isWord_36 rfl rfl ?_
        refine tr_getK (k := 13) q10 d_TrustDeskModel_isWord_37 f_TrustDeskModel_44_13 ?_
        refine mv_aload_n d_TrustDeskModel_isWord_40 rfl rfl ?_
        refine tr_getK (k := 16) q6 d_TrustDeskModel_isWord_41 f_TrustDeskModel_195_13 ?_
        refine mv_iload_n d_TrustDeskModel_isWord_44 rfl rfl ?_
        refine mv_iadd d_TrustDeskModel_isWord_45 ?_
        have b17 : (v7 + 1 : Int32).toInt = (v7.toInt + 1) := mz_add2 rfl (by decide) (by have := yR.1 15 _ _ rfl; have := yR.1 16 _ _ rfl; have := yR.1 19 _ _ rfl; omega) (by have := yR.1 15 _ _ rfl; have := yR.1 16 _ _ rfl; have := yR.1 19 _ _ rfl; omega)
        refine tr_baldR (o := o0) (k := 13) I0 q10 t_a11 (by decide) d_TrustDeskModel_isWord_46 (vp_in_iff.mpr (by have := yR.1 15 _ _ rfl; have := yR.1 16 _ _ rfl; have := yR.1 19 _ _ rfl; omega)) (fun v18 e19 => ?_)
        have := yR.a (k := 13) rfl ((v7 + 1) : Int32).toNatClampNeg
        have h20 : (v7 + 1).toNatClampNeg = (rv M0 o0 16).toNat + 1 := by have := mz_nat9 (i := (v7 + 1)) (by have := yR.1 15 _ _ rfl; have := yR.1 16 _ _ rfl; have := yR.1 19 _ _ rfl; omega); have := yR.1 15 _ _ rfl; have := yR.1 16 _ _ rfl; have := yR.1 19 _ _ rfl; omega
        have : v18.toInt = ra M0 o0 13 ((rv M0 o0 16).toNat + 1) := by rw [e19, h20]
        refine mv_aload_n d_TrustDeskModel_isWord_47 rfl rfl ?_
        refine mv_iload_n d_TrustDeskModel_isWord_48 rfl rfl ?_
        refine mv_schC (i := 34) (v := 114) d_TrustDeskModel_isWord_49 lV_TrustDeskModel_220 (by decide) rfl (by decide) (by decide) (Nat.le_of_ble_eq_true rfl) (by decide) ?_
        have := mz_hi v18
        refine mv_icmp_eqZ (tgt := 57) (a := v18.toInt) (b := 114) d_TrustDeskModel_isWord_52 (by decide) rfl (by decide) (fun b21 => ?_) (fun b21 => ?_)
        · refine mv_iinc (v := 2) (lv' := [(2, .int 2), (0, .ref o0), (1, .ref 44)]) d_TrustDeskModel_isWord_57 rfl (by decide) (by decide) rfl ?_
          refine mv_goto (tgt := 28) d_TrustDeskModel_isWord_60 (by decide) ?_
          refine mv_iload_n d_TrustDeskModel_isWord_28 rfl rfl ?_
          refine mv_aload_n d_TrustDeskModel_isWord_29 rfl rfl ?_
          refine mv_slenK (i := 34) (v := 5) d_TrustDeskModel_isWord_30 lV_TrustDeskModel_214 (by decide) rfl (by decide) (Nat.le_of_ble_eq_true rfl) ?_
          refine mv_icmp_ge_f (tgt := 63) d_TrustDeskModel_isWord_33 (by decide) (by decide) ?_
          refine mv_aload_n d_TrustDeskModel_isWord_36 rfl rfl ?_
          refine tr_getK (k := 13) q10 d_TrustDeskModel_isWord_37 f_TrustDeskModel_44_13 ?_
          refine mv_aload_n d_TrustDeskModel_isWord_40 rfl rfl ?_
          refine tr_getK (k := 16) q6 d_TrustDeskModel_isWord_41 f_TrustDeskModel_195_13 ?_
          refine mv_iload_n d_TrustDeskModel_isWord_44 rfl rfl ?_
          refine mv_iadd d_TrustDeskModel_isWord_45 ?_
          have b22 : (v7 + 2 : Int32).toInt = (v7.toInt + 2) := mz_add2 rfl (by decide) (by have := yR.1 15 _ _ rfl; have := yR.1 16 _ _ rfl; have := yR.1 19 _ _ rfl; omega) (by have := yR.1 15 _ _ rfl; have := yR.1 16 _ _ rfl; have := yR.1 19 _ _ rfl; omega)
          refine tr_baldR (o := o0) (k := 13) I0 q10 t_a11 (by decide) d_TrustDeskModel_isWord_46 (vp_in_iff.mpr (by have := yR.1 15 _ _ rfl; have := yR.1 16 _ _ rfl; have := yR.1 19 _ _ rfl; omega)) (fun v23 e24 => ?_)
          have := yR.a (k := 13) rfl ((v7 + 2) : Int32).toNatClampNeg
          have h25 : (v7 + 2).toNatClampNeg = (rv M0 o0 16).toNat + 2 := by have := mz_nat9 (i := (v7 + 2)) (by have := yR.1 15 _ _ rfl; have := yR.1 16 _ _ rfl; have := yR.1 19 _ _ rfl; omega); have := yR.1 15 _ _ rfl; have := yR.1 16 _ _ rfl; have := yR.1 19 _ _ rfl; omega
          have : v23.toInt = ra M0 o0 13 ((rv M0 o0 16).toNat + 2) := by rw [e24, h25]
          refine mv_aload_n d_TrustDeskModel_isWord_47 rfl rfl ?_
          refine mv_iload_n d_TrustDeskModel_isWord_48 rfl rfl ?_
          refine mv_schC (i := 34) (v := 117) d_TrustDeskModel_isWord_49 lV_TrustDeskModel_220 (by decide) rfl (by decide) (by decide) (Nat.le_of_ble_eq_true rfl) (by decide) ?_
          have := mz_hi v23
          refine mv_icmp_eqZ (tgt := 57) (a := v23.toInt) (b := 117) d_TrustDeskModel_isWord_52 (by decide) rfl (by decide) (fun b26 => ?_) (fun b26 => ?_)
          · refine mv_iinc (v := 3) (lv' := [(2, .int 3), (0, .ref o0), (1, .ref 44)]) d_TrustDeskModel_isWord_57 rfl (by decide) (by decide) rfl ?_
            refine mv_goto (tgt := 28) d_TrustDeskModel_isWord_60 (by decide) ?_
            refine mv_iload_n d_TrustDeskModel_isWord_28 rfl rfl ?_
            refine mv_aload_n d_TrustDeskModel_isWord_29 rfl rfl ?_
            refine mv_slenK (i := 34) (v := 5) d_TrustDeskModel_isWord_30 lV_TrustDeskModel_214 (by decide) rfl (by decide) (Nat.le_of_ble_eq_true rfl) ?_
            refine mv_icmp_ge_f (tgt := 63) d_TrustDeskModel_isWord_33 (by decide) (by decide) ?_
            refine mv_aload_n d_TrustDeskModel_isWord_36 rfl rfl ?_
            refine tr_getK (k := 13) q10 d_TrustDeskModel_isWord_37 f_TrustDeskModel_44_13 ?_
            refine mv_aload_n d_TrustDeskModel_isWord_40 rfl rfl ?_
            refine tr_getK (k := 16) q6 d_TrustDeskModel_isWord_41 f_TrustDeskModel_195_13 ?_
            refine mv_iload_n d_TrustDeskModel_isWord_44 rfl rfl ?_
            refine mv_iadd d_TrustDeskModel_isWord_45 ?_
            have b27 : (v7 + 3 : Int32).toInt = (v7.toInt + 3) := mz_add2 rfl (by decide) (by have := yR.1 15 _ _ rfl; have := yR.1 16 _ _ rfl; have := yR.1 19 _ _ rfl; omega) (by have := yR.1 15 _ _ rfl; have := yR.1 16 _ _ rfl; have := yR.1 19 _ _ rfl; omega)
            refine tr_baldR (o := o0) (k := 13) I0 q10 t_a11 (by decide) d_TrustDeskModel_isWord_46 (vp_in_iff.mpr (by have := yR.1 15 _ _ rfl; have := yR.1 16 _ _ rfl; have := yR.1 19 _ _ rfl; omega)) (fun v28 e29 => ?_)
            have := yR.a (k := 13) rfl ((v7 + 3) : Int32).toNatClampNeg
            have h30 : (v7 + 3).toNatClampNeg = (rv M0 o0 16).toNat + 3 := by have := mz_nat9 (i := (v7 + 3)) (by have := yR.1 15 _ _ rfl; have := yR.1 16 _ _ rfl; have := yR.1 19 _ _ rfl; omega); have := yR.1 15 _ _ rfl; have := yR.1 16 _ _ rfl; have := yR.1 19 _ _ rfl; omega
            have : v28.toInt = ra M0 o0 13 ((rv M0 o0 16).toNat + 3) := by rw [e29, h30]
            refine mv_aload_n d_TrustDeskModel_isWord_47 rfl rfl ?_
            refine mv_iload_n d_TrustDeskModel_isWord_48 rfl rfl ?_
            refine mv_schC (i := 34) (v := 115) d_TrustDeskModel_isWord_49 lV_TrustDeskModel_220 (by decide) rfl (by decide) (by decide) (Nat.le_of_ble_eq_true rfl) (by decide) ?_
            have := mz_hi v28
            refine mv_icmp_eqZ (tgt := 57) (a := v28.toInt) (b := 115) d_TrustDeskModel_isWord_52 (by decide) rfl (by decide) (fun b31 => ?_) (fun b31 => ?_)
            · refine mv_iinc (v := 4) (lv' := [(2, .int 4), (0, .ref o0), (1, .ref 44)]) d_TrustDeskModel_isWord_57 rfl (by decide) (by decide) rfl ?_
              refine mv_goto (tgt := 28) d_TrustDeskModel_isWord_60 (by decide) ?_
              refine mv_iload_n d_TrustDeskModel_isWord_28 rfl rfl ?_
              refine mv_aload_n d_TrustDeskModel_isWord_29 rfl rfl ?_
              refine mv_slenK (i := 34) (v := 5) d_TrustDeskModel_isWord_30 lV_TrustDeskModel_214 (by decide) rfl (by decide) (Nat.le_of_ble_eq_true rfl) ?_
              refine mv_icmp_ge_f (tgt := 63) d_TrustDeskModel_isWord_33 (by decide) (by decide) ?_
              refine mv_aload_n d_TrustDeskModel_isWord_36 rfl rfl ?_
              refine tr_getK (k := 13) q10 d_TrustDeskModel_isWord_37 f_TrustDeskModel_44_13 ?_
              refine mv_aload_n d_TrustDeskModel_isWord_40 rfl rfl ?_
              refine tr_getK (k := 16) q6 d_TrustDeskModel_isWord_41 f_TrustDeskModel_195_13 ?_
              refine mv_iload_n d_TrustDeskModel_isWord_44 rfl rfl ?_
              refine mv_iadd d_TrustDeskModel_isWord_45 ?_
              have b32 : (v7 + 4 : Int32).toInt = (v7.toInt + 4) := mz_add2 rfl (by decide) (by have := yR.1 15 _ _ rfl; have := yR.1 16 _ _ rfl; have := yR.1 19 _ _ rfl; omega) (by have := yR.1 15 _ _ rfl; have := yR.1 16 _ _ rfl; have := yR.1 19 _ _ rfl; omega)
              refine tr_baldR (o := o0) (k := 13) I0 q10 t_a11 (by decide) d_TrustDeskModel_isWord_46 (vp_in_iff.mpr (by have := yR.1 15 _ _ rfl; have := yR.1 16 _ _ rfl; have := yR.1 19 _ _ rfl; omega)) (fun v33 e34 => ?_)
              have := yR.a (k := 13) rfl ((v7 + 4) : Int32).toNatClampNeg
              have h35 : (v7 + 4).toNatClampNeg = (rv M0 o0 16).toNat + 4 := by have := mz_nat9 (i := (v7 + 4)) (by have := yR.1 15 _ _ rfl; have := yR.1 16 _ _ rfl; have := yR.1 19 _ _ rfl; omega); have := yR.1 15 _ _ rfl; have := yR.1 16 _ _ rfl; have := yR.1 19 _ _ rfl; omega
              have : v33.toInt = ra M0 o0 13 ((rv M0 o0 16).toNat + 4) := by rw [e34, h35]
              refine mv_aload_n d_TrustDeskModel_isWord_47 rfl rfl ?_
              refine mv_iload_n d_TrustDeskModel_isWord_48 rfl rfl ?_
              refine mv_schC (i := 34) (v := 116) d_TrustDeskModel_isWord_49 lV_TrustDeskModel_220 (by decide) rfl (by decide) (by decide) (Nat.le_of_ble_eq_true rfl) (by decide) ?_
              have := mz_hi v33
              refine mv_icmp_eqZ (tgt := 57) (a := v33.toInt) (b := 116) d_TrustDeskModel_isWord_52 (by decide) rfl (by decide) (fun b36 => ?_) (fun b36 => ?_)
              · refine mv_iinc (v := 5) (lv' := [(2, .int 5), (0, .ref o0), (1, .ref 44)]) d_TrustDeskModel_isWord_57 rfl (by decide) (by decide) rfl ?_
                refine mv_goto (tgt := 28) d_TrustDeskModel_isWord_60 (by decide) ?_
                refine mv_iload_n d_TrustDeskModel_isWord_28 rfl rfl ?_
                refine mv_aload_n d_TrustDeskModel_isWord_29 rfl rfl ?_
                refine mv_slenK (i := 34) (v := 5) d_TrustDeskModel_isWord_30 lV_TrustDeskModel_214 (by decide) rfl (by decide) (Nat.le_of_ble_eq_true rfl) ?_
                refine mv_icmp_ge_t (tgt := 63) d_TrustDeskModel_isWord_33 (by decide) (by decide) ?_
                refine mv_iconst (v := 1) d_TrustDeskModel_isWord_63 (by decide) ?_
                exact mv_iret d_TrustDeskModel_isWord_64 rfl (by decide) ⟨_, I0, _, rfl, by decide, by decide, yR, (fun _ => by have := yR.1 15 _ _ rfl; have := yR.1 16 _ _ rfl; have := yR.1 19 _ _ rfl; omega), (fun _ => ⟨by have := yR.1 15 _ _ rfl; have := yR.1 16 _ _ rfl; have := yR.1 19 _ _ rfl; omega, by have := yR.1 15 _ _ rfl; have := yR.1 16 _ _ rfl; have := yR.1 19 _ _ rfl; omega, by have := yR.1 15 _ _ rfl; have := yR.1 16 _ _ rfl; have := yR.1 19 _ _ rfl; omega, by have := yR.1 15 _ _ rfl; have := yR.1 16 _ _ rfl; have := yR.1 19 _ _ rfl; omega, by have := yR.1 15 _ _ rfl; have := yR.1 16 _ _ rfl; have := yR.1 19 _ _ rfl; omega, by have := yR.1 15 _ _ rfl; have := yR.1 16 _ _ rfl; have := yR.1 19 _ _ rfl; omega, by have := yR.1 15 _ _ rfl; have := yR.1 16 _ _ rfl; have := yR.1 19 _ _ rfl; omega⟩), (fun h => absurd h (by decide))⟩
              · refine mv_iconst (v := 0) d_TrustDeskModel_isWord_55 (by decide) ?_
                exact mv_iret d_TrustDeskModel_isWord_56 rfl (by decide) ⟨_, I0, _, rfl, by decide, by decide, yR, (fun h => absurd h (by decide)), (fun h => absurd h (by decide)), (fun _ h => by obtain ⟨h1, h2, h3, h4, h5, h6, h7⟩ := h; have := yR.1 15 _ _ rfl; have := yR.1 16 _ _ rfl; have := yR.1 19 _ _ rfl; omega)⟩
            · refine mv_iconst (v := 0) d_TrustDeskModel_isWord_55 (by decide) ?_
              exact mv_iret d_TrustDeskModel_isWord_56 rfl (by decide) ⟨_, I0, _, rfl, by decide, by decide, yR, (fun h => absurd h (by decide)), (fun h => absurd h (by decide)), (fun _ h => by obtain ⟨h1, h2, h3, h4, h5, h6, h7⟩ := h; have := yR.1 15 _ _ rfl; have := yR.1 16 _ _ rfl; have := yR.1 19 _ _ rfl; omega)⟩
          · refine mv_iconst (v := 0) d_TrustDeskModel_isWord_55 (by decide) ?_
            exact mv_iret d_TrustDeskModel_isWord_56 rfl (by decide) ⟨_, I0, _, rfl, by decide, by decide, yR, (fun h => absurd h (by decide)), (fun h => absurd h (by decide)), (fun _ h => by obtain ⟨h1, h2, h3, h4, h5, h6, h7⟩ := h; have := yR.1 15 _ _ rfl; have := yR.1 16 _ _ rfl; have := yR.1 19 _ _ rfl; omega)⟩
        · refine mv_iconst (v := 0) d_TrustDeskModel_isWord_55 (by decide) ?_
          exact mv_iret d_TrustDeskModel_isWord_56 rfl (by decide) ⟨_, I0, _, rfl, by decide, by decide, yR, (fun h => absurd h (by decide)), (fun h => absurd h (by decide)), (fun _ h => by obtain ⟨h1, h2, h3, h4, h5, h6, h7⟩ := h; have := yR.1 15 _ _ rfl; have := yR.1 16 _ _ rfl; have := yR.1 19 _ _ rfl; omega)⟩
      · refine mv_iconst (v := 0) d_TrustDeskModel_isWord_55 (by decide) ?_
        exact mv_iret d_TrustDeskModel_isWord_56 rfl (by decide) ⟨_, I0, _, rfl, by decide, by decide, yR, (fun h => absurd h (by decide)), (fun h => absurd h (by decide)), (fun _ h => by obtain ⟨h1, h2, h3, h4, h5, h6, h7⟩ := h; have := yR.1 15 _ _ rfl; have := yR.1 16 _ _ rfl; have := yR.1 19 _ _ rfl; omega)⟩
    · refine mv_iconst (v := 0) d_TrustDeskModel_isWord_24 (by decide) ?_
      exact mv_iret d_TrustDeskModel_isWord_25 rfl (by decide) ⟨_, I0, _, rfl, by decide, by decide, yR, (fun h => absurd h (by decide)), (fun h => absurd h (by decide)), (fun _ h => by obtain ⟨h1, h2, h3, h4, h5, h6, h7⟩ := h; have := yR.1 15 _ _ rfl; have := yR.1 16 _ _ rfl; have := yR.1 19 _ _ rfl; omega)⟩
theorem d_TrustDeskModel_readClause_29 : decode kY_TrustDeskModel_readClause.2.1 29 = .ok (.ifCond .ne 11, 3) := by decide +kernel
theorem d_TrustDeskModel_readClause_32 : decode kY_TrustDeskModel_readClause.2.1 32 = .ok (.aload_n 0, 1) := by decide +kernel
theorem d_TrustDeskModel_readClause_33 : decode kY_TrustDeskModel_readClause.2.1 33 = .ok (.iconst 1, 1) := by decide +kernel
theorem d_TrustDeskModel_readClause_34 : decode kY_TrustDeskModel_readClause.2.1 34 = .ok (.invokevirtual 240, 3) := by decide +kernel
theorem d_TrustDeskModel_readClause_37 : decode kY_TrustDeskModel_readClause.2.1 37 = .ok (.goto 33, 3) := by decide +kernel
def w_TrustDeskModel_readClause_x : List Nat := [1315, 1316, 1317, 1318, 1319, 1320, 1322, 1324, 20004, 20005, 20006, 20007, 20008, 20009, 20010, 20011, 20012, 20025, 20026]
set_option maxHeartbeats 100000000 in theorem tc_TrustDeskModel_readClause_x {g : mj_G} {l : Launch} {d : Nat} {T0 : tm_H} {M0 : mj_M} {n0 x9 : Nat} {o0 : Nat} (h_o0 : T0 o0 = some (0, 13, 0)) (yR : rI M0 o0) (yWW : rW M0 o0) (yw : rv M0 o0 19 = 0) (yo : rv M0 o0 17 ≠ 0) (yq : rv M0 o0 22 = 0) (ym : ra M0 o0 6 44 ≤ 12) {pb : Nat → Int} {pn : Nat} {pa : Int} {ps : p_S} (yO : pO M0 o0 pb pn pa ps) {pc9 : Nat} {pN9 : List (Nat × Nat)} (yk : ra M0 o0 6 44 = (pc9 : Int)) (yM : pN M0 o0 pn pN9) (I0 : tm_I tm_FT (tm_in w_TrustDeskModel_readClause_x) x9 T0 M0 n0 T0 M0 n0) : mj_Met g l kY_TrustDeskModel_readClause (d + 26) [.ref o0] M0 n0 0 0 (tm_Q tm_FT (tm_in w_TrustDeskModel_readClause_x) x9 T0 M0 n0 (fun r _ M => r = none ∧ rI M o0 ∧ (rW M o0) ∧ (rO M0 M o0) ∧ (rv M0 o0 16 ≤ rv M o0 16 ∧ (rv M o0 19 = 0 → rv M0 o0 16 < rv M o0 16)) ∧ (rv M o0 19 = 0 → rv M o0 22 = 0) ∧ (rwE M0 o0 → rv M o0 19 = 0 → ra M o0 7 (880 + ra M0 o0 6 44).toNat = 8 ∧ ra M o0 6 44 = ra M0 o0 6 44 + 1) ∧ (ra M o0 6 44 ≤ 12) ∧ (pO M o0 pb pn pa ((p_cl pb pn pa (pc9, pN9, ps)).2)) ∧ (rv M o0 19 = 0 → ra M o0 6 44 = (pc9 : Int) + 1) ∧ (rv M o0 19 = 0 → pN M o0 pn (p_cl pb pn pa (pc9, pN9, ps)).1))) := by
  refine mj_enter (by decide) (Nat.le_of_ble_eq_true rfl) ?_
  have yT := yWW.1
  have yS : rv M0 o0 19 = 0 → ra M0 o0 5 44 ≤ rv M0 o0 16 := fun h9 => (yWW.2 h9).1
  have yG := (yWW.2 yw).2
  have yN := yG.2.2
  have := yR.2 6 _ _ rfl 44
  have yE0 := rE.rf yT
  have K1 : rK M0 M0 o0 ((880 + ra M0 o0 6 44).toNat) := rK.rf
  have K2 : nN M0 o0 := yN
  have := yO.w
  have := yM.1
  refine mv_aload_n d_TrustDeskModel_readClause_0 rfl rfl ?_
  refine mv_ldcSw (id := 42) (tx := "end") d_TrustDeskModel_readClause_1 (List.mem_of_getElem? (i := 32) rfl) ?_
  obtain ⟨_, b9, -⟩ := I0.1 _ _ h_o0
  refine mv_callV (kc' := 0) (ks' := 0) (As := [.ref 42]) (st9 := [.ref 42, .ref o0]) d_TrustDeskModel_readClause_4 lV_TrustDeskModel_244 b9 rfl (tc_TrustDeskModel_isWord_s1_42_x (d := (d + 21)) (x9 := x9) (o0 := o0) h_o0 yR I0.start) rfl (Nat.le_of_ble_eq_true rfl) (Nat.le_of_ble_eq_true rfl) (Nat.le_of_ble_eq_true rfl) (hst := rfl) (fun b3r M4 n5 b3 => ?_)
  obtain ⟨T6, J7, v10, rfl, b11, b12, R13, f14, f15, f16⟩ := b3
  have I8 := I0.call J7 (tm_sub (by decide)) (Or.inl rfl)
  have t17 := J7.up h_o0
  replace f14 := Im.i f14
  replace f15 := Im.i f15
  replace f16 := Im.i f16
  have z18 := (rv_c I0 J7 (I0.up h_o0) (k := 15) rfl)
  have z19 := (rv_c I0 J7 (I0.up h_o0) (k := 16) rfl)
  have z20 := (rv_c I0 J7 (I0.up h_o0) (k := 17) rfl)
  have z21 := (rv_c I0 J7 (I0.up h_o0) (k := 19) rfl)
  have z22 := (rv_c I0 J7 (I0.up h_o0) (k := 22) rfl)
  have z23 := (rv_c I0 J7 (I0.up h_o0) (k := 24) rfl)
  have z24 := (ra_call I0 J7 (I0.up h_o0) (k := 5) rfl rfl rfl 44)
  have z25 := (ra_call I0 J7 (I0.up h_o0) (k := 6) rfl rfl rfl 44)
  have E26 : rE M0 M4 o0 0 0 := yE0.same (rE_hv I0 J7 (I0.up h_o0) 15 19 (by decide)) (rE_ha I0 J7 (I0.up h_o0) (by decide))
  have K27 : rK M0 M4 o0 ((880 + ra M0 o0 6 44).toNat) := K1.same (sA_c I0 J7 (I0.up h_o0) (by decide +kernel))
  have K28 : nN M4 o0 := K2.same (sA_c I0 J7 (I0.up h_o0) (by decide +kernel)) (sF_c I0 J7 (I0.up h_o0) (by decide +kernel))
  have K29 : pN M4 o0 pn pN9 := yM.same (sA_c I0 J7 (I0.up h_o0) (by decide +kernel)) (sF_c I0 J7 (I0.up h_o0) (by decide +kernel))
  have Z930 : pO M4 o0 pb pn pa ps := yO.same (rE_hv I0 J7 (I0.up h_o0) 14 20 (by decide)) (rv_c I0 J7 (I0.up h_o0) (k := 23) rfl) (ra_call I0 J7 (I0.up h_o0) (k := 13) rfl rfl rfl)
  have d31 := Im.i (pO.w_26 yO (by have := yR.1 15 _ _ rfl; have := yR.1 16 _ _ rfl; have := yR.1 19 _ _ rfl; omega) (Im.o f15) (Im.o f16) (by have := yR.1 15 _ _ rfl; have := yR.1 16 _ _ rfl; have := yR.1 19 _ _ rfl; omega))
  refine mv_istore_n (lv' := [(1, .int v10), (0, .ref o0)]) d_TrustDeskModel_readClause_7 rfl (by decide) rfl ?_
  refine mv_iload_n d_TrustDeskModel_readClause_8 rfl rfl ?_
  have := mz_hi v10
  refine mv_if_neZ (tgt := 40) (a := v10.toInt) d_TrustDeskModel_readClause_9 (by decide) rfl (fun b32 => ?_) (fun b32 => ?_)
  · refine mv_aload_n d_TrustDeskModel_readClause_40 rfl rfl ?_
    obtain ⟨a34, q33, t_a34⟩ := tm_atR I8 t17 (k := 6) rfl
    refine tr_getK q33 d_TrustDeskModel_readClause_41 f_TrustDeskModel_23_13 ?_
    refine mv_bipush (v := 44) d_TrustDeskModel_readClause_44 (by decide) ?_
    refine tr_ialdR (o := o0) (k := 6) I8 q33 t_a34 (by decide) d_TrustDeskModel_readClause_46 (by unfold vp_in; decide) (fun v35 e36 => ?_)
    have := R13.a (k := 6) rfl (44 : Int32).toNatClampNeg
    have : v35.toInt = ra M4 o0 6 44 := e36
    have : v35.toInt = _ := Eq.trans e36 z25
    refine mv_bipush (v := 12) d_TrustDeskModel_readClause_47 (by decide) ?_
    have := mz_hi v35
    refine mv_icmp_eqZ (tgt := 65) (a := v35.toInt) (b := 12) d_TrustDeskModel_readClause_49 (by decide) rfl (by decide) (fun b37 => ?_) (fun b37 => ?_)
    · have h38 : Im (12 ≤ pc9) := Im.i (by omega)
      refine mv_aload_n d_TrustDeskModel_readClause_65 rfl rfl ?_
      refine mv_iconst (v := 4) d_TrustDeskModel_readClause_66 (by decide) ?_
      obtain ⟨_, b45, -⟩ := I8.1 _ _ t17
      have : (4 : Int32).toInt = 4 := by decide
      refine mv_callV (kc' := 0) (ks' := 0) (As := [.int 4]) (st9 := [.int 4, .ref o0]) d_TrustDeskModel_readClause_67 lV_TrustDeskModel_240 b45 rfl (tc_TrustDeskModel_fails_x (d := (d + 25)) (x9 := x9) (o0 := o0) (x1 := 4) t17 R13 (by decide) Z930 I8.start) rfl (Nat.le_of_ble_eq_true rfl) (Nat.le_of_ble_eq_true rfl) (Nat.le_of_ble_eq_true rfl) (hst := rfl) (fun b39r M40 n41 b39 => ?_)
      obtain ⟨T42, J43, rfl, R46, f47, f48⟩ := b39
      have I44 := I8.call J43 (tm_sub (by decide)) (Or.inl rfl)
      have t49 := J43.up t17
      have z50 := (rv_c I8 J43 (I8.up h_o0) (k := 15) rfl).trans z18
      have z51 := (rv_c I8 J43 (I8.up h_o0) (k := 16) rfl).trans z19
      have z52 := (rv_c I8 J43 (I8.up h_o0) (k := 17) rfl).trans z20
      have z53 := (rv_c I8 J43 (I8.up h_o0) (k := 22) rfl).trans z22
      have z54 := (rv_c I8 J43 (I8.up h_o0) (k := 24) rfl).trans z23
      have z55 := (ra_call I8 J43 (I8.up h_o0) (k := 5) rfl rfl rfl 44).trans z24
      have z56 := (ra_call I8 J43 (I8.up h_o0) (k := 6) rfl rfl rfl 44).trans z25
      have E57 : rE M0 M40 o0 0 0 := E26.fails (rE_hv I8 J43 (I8.up h_o0) 15 18 (by decide)) (rE_ha I8 J43 (I8.up h_o0) (by decide)) f47 0 0
      have K58 : rK M0 M40 o0 ((880 + ra M0 o0 6 44).toNat) := K27.same (sA_c I8 J43 (I8.up h_o0) (by decide +kernel))
      have K59 : nN M40 o0 := K28.same (sA_c I8 J43 (I8.up h_o0) (by decide +kernel)) (sF_c I8 J43 (I8.up h_o0) (by decide +kernel))
      have K60 : pN M40 o0 pn pN9 := K29.same (sA_c I8 J43 (I8.up h_o0) (by decide +kernel)) (sF_c I8 J43 (I8.up h_o0) (by decide +kernel))
      rw [show (4 : Int32).toInt = 4 from by decide] at f48
      obtain ⟨s61, e62⟩ : ∃ s9 : p_S, p_fl pb pn 4 ps = s9 := ⟨_, rfl⟩
      rw [e62] at f48
      have := f48.w
      clear z18 z19 z20 z22 z23 z24 z25
      have q63 := J43.keep t17 (by decide) q33
      have t64 := J43.up t_a34
      refine mv_aload_n d_TrustDeskModel_readClause_70 rfl rfl ?_
      obtain ⟨_, b65, -⟩ := I44.1 _ _ t49
      refine mv_callV (kc1 := 0) (ks1 := 0) (kc' := 0) (ks' := 0) (As := []) (st9 := [.ref o0]) d_TrustDeskModel_readClause_71 lV_TrustDeskModel_230 b65 rfl (mj_enter (by decide) (Nat.le_of_ble_eq_true rfl) ?_) rfl (Nat.le_of_ble_eq_true rfl) (Nat.le_of_ble_eq_true rfl) (Nat.le_of_ble_eq_true rfl) (hst := rfl) (fun _ _ _ h => h)
      refine mv_aload_n d_TrustDeskModel_isWell_0 rfl rfl ?_
      obtain ⟨v67, q66⟩ := tm_atI I44 t49 (k := 19) rfl
      refine tr_getK q66 d_TrustDeskModel_isWell_1 f_TrustDeskModel_224_13 ?_
      have := R46.f (k := 19) q66 rfl
      have := tm_rv q66
      refine mv_if_neZ (tgt := 11) (a := v67.toInt) d_TrustDeskModel_isWell_4 (by decide) rfl (fun b68 => ?_) (fun b68 => ?_)
      · refine mv_iconst (v := 0) d_TrustDeskModel_isWell_11 (by decide) ?_
        refine mv_iret d_TrustDeskModel_isWell_12 rfl (by decide) ?_
        refine mv_if_ne_f (tgt := 78) d_TrustDeskModel_readClause_74 (by decide) (by decide) ?_
        exact mv_vret d_TrustDeskModel_readClause_77 rfl ⟨_, I44, rfl, R46, (rW.of E57.1 (fun h9 => by exfalso; skip; have := R46.1 15 _ _ rfl; have := R46.1 16 _ _ rfl; have := R46.1 19 _ _ rfl; omega) (fun h9 => by exfalso; skip; have := R46.1 15 _ _ rfl; have := R46.1 16 _ _ rfl; have := R46.1 19 _ _ rfl; omega)), (rO.of E57 K58 (by have := yR.2 6 _ _ rfl 44; omega)), ⟨E57.2.1, fun w9 => by skip; have := E57.w2 w9; omega⟩, (fun w9 => by skip; omega), (fun _ h9 => by exfalso; skip; have := R46.1 15 _ _ rfl; have := R46.1 16 _ _ rfl; have := R46.1 19 _ _ rfl; omega), (by have := R46.1 15 _ _ rfl; have := R46.1 16 _ _ rfl; have := R46.1 19 _ _ rfl; omega), (by rw [show (p_cl pb pn pa (pc9, pN9, ps)).2 = s61 from (congrArg Prod.snd (p_cl_4 (yO.w.symm.trans yw) (Or.inl (pW1 (Im.o d31) (by omega))) (Or.inl (Im.o h38)))).trans (by show _ = _; (try dsimp only); (try (first | (simp only [e62]; done) | (simp only [e62]; first | exact p_sg_Z _ (by omega) | omega))))]; exact f48), (fun w9 => by skip; omega), (fun h9 => by exfalso; skip; have := R46.1 15 _ _ rfl; have := R46.1 16 _ _ rfl; have := R46.1 19 _ _ rfl; omega)⟩
      · exfalso
        have := R46.1 15 _ _ rfl; have := R46.1 16 _ _ rfl; have := R46.1 19 _ _ rfl; omega
    · have h69 : Im (¬ 12 ≤ pc9) := Im.i (by omega)
      refine mv_iload_n d_TrustDeskModel_readClause_52 rfl rfl ?_
      have := mz_hi v10
      refine mv_if_eqZ (tgt := 70) (a := v10.toInt) d_TrustDeskModel_readClause_53 (by decide) rfl (fun b70 => absurd b70 (by omega)) (fun b70 => ?_)
      refine mv_aload_n d_TrustDeskModel_readClause_56 rfl rfl ?_
      obtain ⟨v72, q71⟩ := tm_atI I8 t17 (k := 24) rfl
      refine tr_getK q71 d_TrustDeskModel_readClause_57 f_TrustDeskModel_321_13 ?_
      have := R13.f (k := 24) q71 rfl
      have := (tm_rv q71).symm.trans z23
      have := tm_rv q71
      refine mv_bipush (v := 6) d_TrustDeskModel_readClause_60 (by decide) ?_
      have := mz_hi v72
      refine mv_icmp_neZ (tgt := 70) (a := v72.toInt) (b := 6) d_TrustDeskModel_readClause_62 (by decide) rfl (by decide) (fun b73 => ?_) (fun b73 => ?_)
      · have h74 : Im (¬ (p_wi pb pn ps.2.2 = 26 ∧ 6 ≤ pN9.length)) := Im.i (fun h9 => by have h8 := h9.2; omega)
        refine mv_aload_n d_TrustDeskModel_readClause_70 rfl rfl ?_
        obtain ⟨_, b75, -⟩ := I8.1 _ _ t17
        refine mv_callV (kc1 := 0) (ks1 := 0) (kc' := 0) (ks' := 0) (As := []) (st9 := [.ref o0]) d_TrustDeskModel_readClause_71 lV_TrustDeskModel_230 b75 rfl (mj_enter (by decide) (Nat.le_of_ble_eq_true rfl) ?_) rfl (Nat.le_of_ble_eq_true rfl) (Nat.le_of_ble_eq_true rfl) (Nat.le_of_ble_eq_true rfl) (hst := rfl) (fun _ _ _ h => h)
        refine mv_aload_n d_TrustDeskModel_isWell_0 rfl rfl ?_
        obtain ⟨v77, q76⟩ := tm_atI I8 t17 (k := 19) rfl
        refine tr_getK q76 d_TrustDeskModel_isWell_1 f_TrustDeskModel_224_13 ?_
        have := R13.f (k := 19) q76 rfl
        have := (tm_rv q76).symm.trans z21
        have := tm_rv q76
        have := mz_hi v77
        refine mv_if_neZ (tgt := 11) (a := v77.toInt) d_TrustDeskModel_isWell_4 (by decide) rfl (fun b78 => ?_) (fun b78 => ?_)
        · refine mv_iconst (v := 0) d_TrustDeskModel_isWell_11 (by decide) ?_
          refine mv_iret d_TrustDeskModel_isWell_12 rfl (by decide) ?_
          refine mv_if_ne_f (tgt := 78) d_TrustDeskModel_readClause_74 (by decide) (by decide) ?_
          exact mv_vret d_TrustDeskModel_readClause_77 rfl ⟨_, I8, rfl, R13, (rW.of E26.1 (E26.s yS (by decide)) (fun w9 => by skip; exact rG.step yG yR E26 w9 K27 (by have := yR.2 6 _ _ rfl 44; omega) (by have := R13.1 15 _ _ rfl; have := R13.1 16 _ _ rfl; have := R13.1 19 _ _ rfl; omega) (by have := R13.1 15 _ _ rfl; have := R13.1 16 _ _ rfl; have := R13.1 19 _ _ rfl; omega) (fun h9 => by exfalso; have := R13.1 15 _ _ rfl; have := R13.1 16 _ _ rfl; have := R13.1 19 _ _ rfl; omega) (fun h9 => (by have := R13.1 15 _ _ rfl; have := R13.1 16 _ _ rfl; have := R13.1 19 _ _ rfl; omega)) (by have := R13.1 15 _ _ rfl; have := R13.1 16 _ _ rfl; have := R13.1 19 _ _ rfl; omega) K28)), (rO.of E26 K27 (by have := yR.2 6 _ _ rfl 44; omega)), ⟨E26.2.1, fun w9 => by skip; have := E26.w2 w9; omega⟩, (fun w9 => by skip; omega), (fun _ h9 => absurd h9 (by have := R13.1 15 _ _ rfl; have := R13.1 16 _ _ rfl; have := R13.1 19 _ _ rfl; omega)), (by have := R13.1 15 _ _ rfl; have := R13.1 16 _ _ rfl; have := R13.1 19 _ _ rfl; omega), (by rw [show (p_cl pb pn pa (pc9, pN9, ps)).2 = ps from (congrArg Prod.snd (p_cl_nz (by omega))).trans (by show _ = _; (try dsimp only); (try (first | (simp only [eq_self]; done) | (simp only [eq_self]; first | exact p_sg_Z _ (by omega) | omega))))]; exact Z930), (fun w9 => by skip; omega), (fun h9 => by exfalso; skip; have := R13.1 15 _ _ rfl; have := R13.1 16 _ _ rfl; have := R13.1 19 _ _ rfl; omega)⟩
        · refine mv_iconst (v := 1) d_TrustDeskModel_isWell_7 (by decide) ?_
          refine mv_goto (tgt := 12) d_TrustDeskModel_isWell_8 (by decide) ?_
          refine mv_iret d_TrustDeskModel_isWell_12 rfl (by decide) ?_
          refine mv_if_ne_t (tgt := 78) d_TrustDeskModel_readClause_74 (by decide) (by decide) ?_
          refine mv_aload_n d_TrustDeskModel_readClause_78 rfl rfl ?_
          refine mv_ldcSw (id := 43) (tx := "mark") d_TrustDeskModel_readClause_79 (List.mem_of_getElem? (i := 33) rfl) ?_
          obtain ⟨_, b85, -⟩ := I8.1 _ _ t17
          refine mv_callV (kc' := 0) (ks' := 0) (As := [.ref 43]) (st9 := [.ref 43, .ref o0]) d_TrustDeskModel_readClause_82 lV_TrustDeskModel_244 b85 rfl (tc_TrustDeskModel_isWord_s1_43_x (d := (d + 21)) (x9 := x9) (o0 := o0) t17 R13 I8.start) rfl (Nat.le_of_ble_eq_true rfl) (Nat.le_of_ble_eq_true rfl) (Nat.le_of_ble_eq_true rfl) (hst := rfl) (fun b79r M80 n81 b79 => ?_)
          obtain ⟨T82, J83, v86, rfl, b87, b88, R89, f90, f91, f92⟩ := b79
          have I84 := I8.call J83 (tm_sub (by decide)) (Or.inl rfl)
          have t93 := J83.up t17
          replace f90 := Im.i f90
          replace f91 := Im.i f91
          replace f92 := Im.i f92
          have z94 := (rv_c I8 J83 (I8.up h_o0) (k := 15) rfl).trans z18
          have z95 := (rv_c I8 J83 (I8.up h_o0) (k := 16) rfl).trans z19
          have z96 := (rv_c I8 J83 (I8.up h_o0) (k := 17) rfl).trans z20
          have z97 := (rv_c I8 J83 (I8.up h_o0) (k := 19) rfl).trans z21
          have z98 := (rv_c I8 J83 (I8.up h_o0) (k := 22) rfl).trans z22
          have z99 := (rv_c I8 J83 (I8.up h_o0) (k := 24) rfl).trans z23
          have z100 := (ra_call I8 J83 (I8.up h_o0) (k := 5) rfl rfl rfl 44).trans z24
          have z101 := (ra_call I8 J83 (I8.up h_o0) (k := 6) rfl rfl rfl 44).trans z25
          have E102 : rE M0 M80 o0 0 0 := E26.same (rE_hv I8 J83 (I8.up h_o0) 15 19 (by decide)) (rE_ha I8 J83 (I8.up h_o0) (by decide))
          have K103 : rK M0 M80 o0 ((880 + ra M0 o0 6 44).toNat) := K27.same (sA_c I8 J83 (I8.up h_o0) (by decide +kernel))
          have K104 : nN M80 o0 := K28.same (sA_c I8 J83 (I8.up h_o0) (by decide +kernel)) (sF_c I8 J83 (I8.up h_o0) (by decide +kernel))
          have K105 : pN M80 o0 pn pN9 := K29.same (sA_c I8 J83 (I8.up h_o0) (by decide +kernel)) (sF_c I8 J83 (I8.up h_o0) (by decide +kernel))
          have Z9106 : pO M80 o0 pb pn pa ps := Z930.same (rE_hv I8 J83 (I8.up h_o0) 14 20 (by decide)) (rv_c I8 J83 (I8.up h_o0) (k := 23) rfl) (ra_call I8 J83 (I8.up h_o0) (k := 13) rfl rfl rfl)
          have d107 := Im.i (pO.w_24 Z930 (by have := R13.1 15 _ _ rfl; have := R13.1 16 _ _ rfl; have := R13.1 19 _ _ rfl; omega) (Im.o f91) (Im.o f92) (by have := R13.1 15 _ _ rfl; have := R13.1 16 _ _ rfl; have := R13.1 19 _ _ rfl; omega))
          clear z22 z23 z24 z25
          have q108 := J83.keep t17 (by decide) q33
          have t109 := J83.up t_a34
          have q110 := J83.keep t17 (by decide) q71
          have q111 := J83.keep t17 (by decide) q76
          refine mv_istore_n (lv' := [(2, .int v86), (1, .int v10), (0, .ref o0)]) d_TrustDeskModel_readClause_85 rfl (by decide) rfl ?_
          refine mv_aload_n d_TrustDeskModel_readClause_86 rfl rfl ?_
          refine mv_iload_n d_TrustDeskModel_readClause_87 rfl rfl ?_
          have := mz_hi v10
          refine mv_if_eqZ (tgt := 96) (a := v10.toInt) d_TrustDeskModel_readClause_88 (by decide) rfl (fun b112 => absurd b112 (by omega)) (fun b112 => ?_)
          refine mv_bipush (v := 8) d_TrustDeskModel_readClause_91 (by decide) ?_
          refine mv_goto (tgt := 107) d_TrustDeskModel_readClause_93 (by decide) ?_
          obtain ⟨_, b119, -⟩ := I84.1 _ _ t93
          have : (8 : Int32).toInt = 8 := by decide
          refine mv_callV (kc' := 0) (ks' := 0) (As := [.int 8]) (st9 := [.int 8, .ref o0]) d_TrustDeskModel_readClause_107 lV_TrustDeskModel_342 b119 rfl (tc_TrustDeskModel_begin_x (d := (d + 23)) (x9 := x9) (o0 := o0) (x1 := 8) t93 R89 E102.1 (E102.s yS (by decide)) (by have := R89.1 15 _ _ rfl; have := R89.1 16 _ _ rfl; have := R89.1 19 _ _ rfl; omega) (by have := f14.o (by omega); omega) (by have := R89.1 15 _ _ rfl; have := R89.1 16 _ _ rfl; have := R89.1 19 _ _ rfl; omega) Z9106 I84.start) rfl (Nat.le_of_ble_eq_true rfl) (Nat.le_of_ble_eq_true rfl) (Nat.le_of_ble_eq_true rfl) (hst := rfl) (fun b113r M114 n115 b113 => ?_)
          obtain ⟨T116, J117, v120, rfl, R121, f122, f123, f124, f125, f126, f127, f128⟩ := b113
          have I118 := I84.call J117 (tm_sub (by decide)) (Or.inl rfl)
          have t129 := J117.up t93
          have := f122.2.1
          have f130 := Im.i f122.w.2
          have f131 := Im.i f122.w2
          have z132 := (rv_c I84 J117 (I84.up h_o0) (k := 19) rfl).trans z97
          have z133 := (rv_c I84 J117 (I84.up h_o0) (k := 22) rfl).trans z98
          have z134 := (rv_c I84 J117 (I84.up h_o0) (k := 24) rfl).trans z99
          have z135 := (ra_call I84 J117 (I84.up h_o0) (k := 5) rfl rfl rfl 44).trans z100
          have E136 : rE M0 M114 o0 0 1 := E102.trans f122 (by decide) (yR.2 5 _ _ rfl 44).1 (by decide) (by decide)
          have h137 : (880 + ra M80 o0 6 44).toNat = (880 + ra M0 o0 6 44).toNat := by omega
          rw [h137] at f125 f126 f127
          have K138 : rK M0 M114 o0 ((880 + ra M0 o0 6 44).toNat) := K103.trans f127
          have K139 : nN M114 o0 := K104.same (sA_c I84 J117 (I84.up h_o0) (by decide +kernel)) (sF_c I84 J117 (I84.up h_o0) (by decide +kernel))
          have K140 : pN M114 o0 pn pN9 := K105.same (sA_c I84 J117 (I84.up h_o0) (by decide +kernel)) (sF_c I84 J117 (I84.up h_o0) (by decide +kernel))
          obtain ⟨s141, e142⟩ : ∃ s9 : p_S, p_nx ps = s9 := ⟨_, rfl⟩
          rw [e142] at f128
          have := f128.w
          clear z98 z99
          have q143 := J117.keep t93 (by decide) q108
          have t144 := J117.up t109
          have q145 := J117.keep t93 (by decide) q110
          have q146 := J117.keep t93 (by decide) q111
          refine mv_istore_n (lv' := [(3, .int v120), (2, .int v86), (1, .int v10), (0, .ref o0)]) d_TrustDeskModel_readClause_110 rfl (by decide) rfl ?_
          refine mv_iload_n d_TrustDeskModel_readClause_111 rfl rfl ?_
          have := mz_hi v10
          refine mv_if_eqZ (tgt := 123) (a := v10.toInt) d_TrustDeskModel_readClause_112 (by decide) rfl (fun b147 => absurd b147 (by omega)) (fun b147 => ?_)
          refine mv_aload_n d_TrustDeskModel_readClause_115 rfl rfl ?_
          refine mv_iload_n d_TrustDeskModel_readClause_116 rfl rfl ?_
          obtain ⟨_, b154, -⟩ := I118.1 _ _ t129
          refine mv_callV (kc' := 0) (ks' := 0) (As := [.int v120]) (st9 := [.int v120, .ref o0]) d_TrustDeskModel_readClause_117 lV_TrustDeskModel_345 b154 rfl (tc_TrustDeskModel_readEnd_x (d := d) (x9 := x9) (o0 := o0) (x1 := v120) t129 R121 E136.1 (E136.s yS (by decide)) (by have := R121.1 15 _ _ rfl; have := R121.1 16 _ _ rfl; have := R121.1 19 _ _ rfl; omega) (by have := R121.1 15 _ _ rfl; have := R121.1 16 _ _ rfl; have := R121.1 19 _ _ rfl; omega) (by have := R121.1 15 _ _ rfl; have := R121.1 16 _ _ rfl; have := R121.1 19 _ _ rfl; omega) K139 (by have := R121.1 15 _ _ rfl; have := R121.1 16 _ _ rfl; have := R121.1 19 _ _ rfl; omega) f128 K140 I118.start) rfl (Nat.le_of_ble_eq_true rfl) (Nat.le_of_ble_eq_true rfl) (Nat.le_of_ble_eq_true rfl) (hst := rfl) (fun b148r M149 n150 b148 => ?_)
          obtain ⟨T151, J152, rfl, R155, f156, f157, f158, f159, f160, f161, f162, f163⟩ := b148
          have I153 := I118.call J152 (tm_sub (by decide)) (Or.inl rfl)
          have t164 := J152.up t129
          have := f156.2.1
          have f165 := Im.i f156.w.2
          have f166 := Im.i f156.w2
          replace f159 := Im.i f159
          replace f161 := Im.i f161
          replace f163 := Im.i f163
          have z167 := (ra_call I118 J152 (I118.up h_o0) (k := 6) rfl rfl rfl 44)
          have z168 := (ra_call I118 J152 (I118.up h_o0) (k := 7) rfl rfl rfl ((880 + ra M0 o0 6 44).toNat))
          have z169 := (ra_call I118 J152 (I118.up h_o0) (k := 10) rfl rfl rfl ((880 + ra M0 o0 6 44).toNat))
          have E170 : rE M0 M149 o0 2 1 := E136.trans f156 (by decide) (yR.2 5 _ _ rfl 44).1 (by decide) (by decide)
          have h171 : v120.toNatClampNeg = (880 + ra M0 o0 6 44).toNat := by have := mz_nat9 (i := v120) (by have := R121.1 15 _ _ rfl; have := R121.1 16 _ _ rfl; have := R121.1 19 _ _ rfl; omega); have := R121.1 15 _ _ rfl; have := R121.1 16 _ _ rfl; have := R121.1 19 _ _ rfl; omega
          rw [h171] at f157 f159 f161
          have K172 : rK M0 M149 o0 ((880 + ra M0 o0 6 44).toNat) := K138.trans f157
          have K173 : nN M149 o0 := f158
          have K174 : rv M149 o0 19 = 0 → rD M114 M149 o0 (880 + ra M0 o0 6 44).toNat := f161
          have K175 : rv M149 o0 19 = 0 → pN M149 o0 pn (pN9 ++ [(p_st pb pn s141.2.2, p_sp pb pn s141.2.2)]) := f163.o
          obtain ⟨s176, e177⟩ : ∃ s9 : p_S, p_en1 pb pn pa pN9 s141 = s9 := ⟨_, rfl⟩
          rw [e177] at f162
          have := f162.w
          have q178 := J152.keep t129 (by decide) q143
          have t179 := J152.up t144
          refine mv_goto (tgt := 165) d_TrustDeskModel_readClause_120 (by decide) ?_
          refine mv_aload_n d_TrustDeskModel_readClause_165 rfl rfl ?_
          refine mv_bipush (v := 59) d_TrustDeskModel_readClause_166 (by decide) ?_
          obtain ⟨_, b186, -⟩ := I153.1 _ _ t164
          have : (59 : Int32).toInt = 59 := by decide
          refine mv_callV (kc' := 0) (ks' := 0) (As := [.int 59]) (st9 := [.int 59, .ref o0]) d_TrustDeskModel_readClause_168 lV_TrustDeskModel_291 b186 rfl (tc_TrustDeskModel_wantSign_x (d := (d + 23)) (x9 := x9) (o0 := o0) (x1 := 59) t164 R155 E170.1 (E170.s yS (by decide)) (by decide) f162 I153.start) rfl (Nat.le_of_ble_eq_true rfl) (Nat.le_of_ble_eq_true rfl) (Nat.le_of_ble_eq_true rfl) (hst := rfl) (fun b180r M181 n182 b180 => ?_)
          obtain ⟨T183, J184, rfl, R187, f188, f189⟩ := b180
          have I185 := I153.call J184 (tm_sub (by decide)) (Or.inl rfl)
          have t190 := J184.up t164
          have := f188.2.1
          have f191 := Im.i f188.w.2
          have f192 := Im.i f188.w2
          have z193 := (rv_c I153 J184 (I153.up h_o0) (k := 22) rfl)
          have z194 := (rv_c I153 J184 (I153.up h_o0) (k := 24) rfl)
          have z195 := (ra_call I153 J184 (I153.up h_o0) (k := 5) rfl rfl rfl 44)
          have z196 := (ra_call I153 J184 (I153.up h_o0) (k := 6) rfl rfl rfl 44).trans z167
          have z197 := (ra_call I153 J184 (I153.up h_o0) (k := 7) rfl rfl rfl ((880 + ra M0 o0 6 44).toNat)).trans z168
          have z198 := (ra_call I153 J184 (I153.up h_o0) (k := 10) rfl rfl rfl ((880 + ra M0 o0 6 44).toNat)).trans z169
          have z199 := (ra_call I153 J184 (I153.up h_o0) (k := 8) rfl rfl rfl ((880 + ra M0 o0 6 44).toNat))
          have E200 : rE M0 M181 o0 2 2 := E170.trans f188 (by decide) (yR.2 5 _ _ rfl 44).1 (by decide) (by decide)
          have K201 : rK M0 M181 o0 ((880 + ra M0 o0 6 44).toNat) := K172.same (sA_c I153 J184 (I153.up h_o0) (by decide +kernel))
          have K202 : nN M181 o0 := K173.same (sA_c I153 J184 (I153.up h_o0) (by decide +kernel)) (sF_c I153 J184 (I153.up h_o0) (by decide +kernel))
          have K203 : rv M181 o0 19 = 0 → rD M114 M181 o0 (880 + ra M0 o0 6 44).toNat := (fun w9 => (K174 (f188.w.2 w9)).same (sA_c I153 J184 (I153.up h_o0) (by decide)))
          have K204 : rv M181 o0 19 = 0 → pN M181 o0 pn (pN9 ++ [(p_st pb pn s141.2.2, p_sp pb pn s141.2.2)]) := (fun w9 => (K175 (f188.w.2 w9)).same (sA_c I153 J184 (I153.up h_o0) (by decide)) (sF_c I153 J184 (I153.up h_o0) (by decide)))
          rw [show (59 : Int32).toInt = 59 from by decide] at f189
          obtain ⟨s205, e206⟩ : ∃ s9 : p_S, p_sg pb pn 59 s176 = s9 := ⟨_, rfl⟩
          rw [e206] at f189
          have := f189.w
          clear z167 z168 z169
          have q207 := J184.keep t164 (by decide) q178
          have t208 := J184.up t179
          refine mv_aload_n d_TrustDeskModel_readClause_171 rfl rfl ?_
          obtain ⟨a210, q209, t_a210⟩ := tm_atR I185 t190 (k := 12) rfl
          refine tr_getK q209 d_TrustDeskModel_readClause_172 f_TrustDeskModel_41_13 ?_
          refine mv_iload_n d_TrustDeskModel_readClause_175 rfl rfl ?_
          refine mv_aload_n d_TrustDeskModel_readClause_176 rfl rfl ?_
          obtain ⟨a212, q211, t_a212⟩ := tm_atR I185 t190 (k := 5) rfl
          refine tr_getK q211 d_TrustDeskModel_readClause_177 f_TrustDeskModel_20_13 ?_
          refine mv_bipush (v := 44) d_TrustDeskModel_readClause_180 (by decide) ?_
          refine tr_ialdR (o := o0) (k := 5) I185 q211 t_a212 (by decide) d_TrustDeskModel_readClause_182 (by unfold vp_in; decide) (fun v213 e214 => ?_)
          have := R187.a (k := 5) rfl (44 : Int32).toNatClampNeg
          have : v213.toInt = ra M181 o0 5 44 := e214
          have : v213.toInt = _ := Eq.trans e214 z195
          refine tr_iastR (k := 12) I185 R187 (I185.up h_o0) q209 t_a210 (by decide) (by decide) (fun lo hi h => by cases h; have := R187.1 15 _ _ rfl; have := R187.1 16 _ _ rfl; have := R187.1 19 _ _ rfl; exact ⟨by show (0 : Int) ≤ v213.toInt; omega, by show v213.toInt ≤ (400 : Int); omega⟩) (Or.inl (by decide)) d_TrustDeskModel_readClause_183 (vp_in_iff.mpr (by have := R187.1 15 _ _ rfl; have := R187.1 16 _ _ rfl; have := R187.1 19 _ _ rfl; omega)) (fun M215 I216 K217 R218 E219 A220 V221 => ?_)
          have z222 := (V221 15)
          have z223 := (V221 16)
          have z224 := (V221 17)
          have z225 := (V221 19)
          have z226 := (V221 22).trans z193
          have z227 := (V221 24).trans z194
          have z228 := (A220 5 (by decide) rfl 44).trans z195
          have z229 := (A220 6 (by decide) rfl 44).trans z196
          have z230 := (A220 7 (by decide) rfl ((880 + ra M0 o0 6 44).toNat)).trans z197
          have z231 := (A220 10 (by decide) rfl ((880 + ra M0 o0 6 44).toNat)).trans z198
          have z232 := (A220 8 (by decide) rfl ((880 + ra M0 o0 6 44).toNat)).trans z199
          have E233 : rE M0 M215 o0 2 2 := E200.same (fun k _ _ => V221 k) (fun k h1 h2 => A220 k (by omega) (by rcases (show k = 4 ∨ k = 5 by omega) with rfl | rfl <;> rfl))
          have h234 : (880 + ra M0 o0 6 44).toNat = v120.toNatClampNeg := by have := mz_nat9 (i := v120) (by have := R187.1 15 _ _ rfl; have := R187.1 16 _ _ rfl; have := R187.1 19 _ _ rfl; omega); have := R187.1 15 _ _ rfl; have := R187.1 16 _ _ rfl; have := R187.1 19 _ _ rfl; omega
          have z235 : ra M215 o0 12 ((880 + ra M0 o0 6 44).toNat) = v213.toInt := (E219 _).trans (if_pos h234)
          have K236 : rK M0 M215 o0 ((880 + ra M0 o0 6 44).toNat) := K201.st A220 E219 (by have := mz_nat9 (i := v120) (by have := R187.1 15 _ _ rfl; have := R187.1 16 _ _ rfl; have := R187.1 19 _ _ rfl; omega); have := R187.1 15 _ _ rfl; have := R187.1 16 _ _ rfl; have := R187.1 19 _ _ rfl; omega)
          have K237 : nN M215 o0 := K202.same (sA_a A220 (by decide +kernel)) (sF_a V221)
          have K238 : rv M215 o0 19 = 0 → rD M114 M215 o0 (880 + ra M0 o0 6 44).toNat := (fun w9 => (K203 (by have e9 := ((sF_a V221) : sF [19] _ _ _) 19 rfl; rw [← e9]; exact w9)).same (sA_a A220 (by decide +kernel)))
          have K239 : rv M215 o0 19 = 0 → pN M215 o0 pn (pN9 ++ [(p_st pb pn s141.2.2, p_sp pb pn s141.2.2)]) := (fun w9 => (K204 (by have e9 := ((sF_a V221) : sF [19, 24] _ _ _) 19 rfl; rw [← e9]; exact w9)).same (sA_a A220 (by decide +kernel)) (fun k hk => ((sF_a V221) : sF [19, 24] _ _ _) k (by simp at hk; subst hk; rfl)))
          have Z9240 : pO M215 o0 pb pn pa s205 := f189.same (fun k _ _ => V221 k) (V221 23) (A220 13 (by decide) rfl)
          clear z193 z194 z195 z196 z197 z198 z199
          exact mv_vret d_TrustDeskModel_readClause_184 rfl ⟨_, I216, rfl, R218, (rW.of E233.1 (E233.s yS (by decide)) (fun w9 => by have u91 : rv M181 o0 19 = 0 := (by omega); have := f191.o u91; have := f192.o u91; have u92 : rv M149 o0 19 = 0 := (by omega); have := f165.o u92; have := f166.o u92; have := f159.o u92; have := f161.o u92; have := f163.o u92; have u93 : rv M114 o0 19 = 0 := (by omega); have := f130.o u93; have := f131.o u93; exact rG.step yG yR E233 w9 K236 (by have := yR.2 6 _ _ rfl 44; omega) (by have := R218.1 15 _ _ rfl; have := R218.1 16 _ _ rfl; have := R218.1 19 _ _ rfl; omega) (by have := R218.1 15 _ _ rfl; have := R218.1 16 _ _ rfl; have := R218.1 19 _ _ rfl; omega) (fun _ => rowN.ofD (K238 w9) (by have := R218.1 15 _ _ rfl; have := R218.1 16 _ _ rfl; have := R218.1 19 _ _ rfl; omega) (by have := R218.1 15 _ _ rfl; have := R218.1 16 _ _ rfl; have := R218.1 19 _ _ rfl; omega)) (fun h9 => (by have := R218.1 15 _ _ rfl; have := R218.1 16 _ _ rfl; have := R218.1 19 _ _ rfl; omega)) (by have := R218.1 15 _ _ rfl; have := R218.1 16 _ _ rfl; have := R218.1 19 _ _ rfl; omega) K237)), (rO.of E233 K236 (by have := yR.2 6 _ _ rfl 44; omega)), ⟨E233.2.1, fun w9 => by skip; have := E233.w2 w9; omega⟩, (fun w9 => by have u91 : rv M181 o0 19 = 0 := (by omega); have := f191.o u91; have := f192.o u91; have u92 : rv M149 o0 19 = 0 := (by omega); have := f165.o u92; have := f166.o u92; have := f159.o u92; have := f161.o u92; have := f163.o u92; have u93 : rv M114 o0 19 = 0 := (by omega); have := f130.o u93; have := f131.o u93; omega), (fun _ w9 => by have u91 : rv M181 o0 19 = 0 := (by omega); have := f191.o u91; have := f192.o u91; have u92 : rv M149 o0 19 = 0 := (by omega); have := f165.o u92; have := f166.o u92; have := f159.o u92; have := f161.o u92; have := f163.o u92; have u93 : rv M114 o0 19 = 0 := (by omega); have := f130.o u93; have := f131.o u93; exact ⟨(by have := R218.1 15 _ _ rfl; have := R218.1 16 _ _ rfl; have := R218.1 19 _ _ rfl; omega), (by have := R218.1 15 _ _ rfl; have := R218.1 16 _ _ rfl; have := R218.1 19 _ _ rfl; omega)⟩), (by have := R218.1 15 _ _ rfl; have := R218.1 16 _ _ rfl; have := R218.1 19 _ _ rfl; omega), (by rw [show (p_cl pb pn pa (pc9, pN9, ps)).2 = s205 from (congrArg Prod.snd (p_cl_e (yO.w.symm.trans yw) (pW1 (Im.o d31) (by omega)) (Im.o h69) (fun h9 => Im.o h74 ⟨(pW1 (Im.o d31) (by omega)), h9⟩))).trans (by show _ = _; (try dsimp only); (try (first | (simp only [e142, e177, e206]; done) | (simp only [e142, e177, e206]; first | exact p_sg_Z _ (by omega) | omega))))]; exact Z9240), (fun w9 => by have u91 : rv M181 o0 19 = 0 := (by omega); have := f191.o u91; have := f192.o u91; have u92 : rv M149 o0 19 = 0 := (by omega); have := f165.o u92; have := f166.o u92; have := f159.o u92; have := f161.o u92; have := f163.o u92; have u93 : rv M114 o0 19 = 0 := (by omega); have := f130.o u93; have := f131.o u93; omega), (fun w9 => by have e9 : (p_cl pb pn pa (pc9, pN9, ps)).1 = pN9 ++ [(p_st pb pn s141.2.2, p_sp pb pn s141.2.2)] := (congrArg Prod.fst (p_cl_e (yO.w.symm.trans yw) (pW1 (Im.o d31) (by omega)) (Im.o h69) (fun h9 => Im.o h74 ⟨(pW1 (Im.o d31) (by omega)), h9⟩))).trans (by (try rw [← e142]); rfl); rw [e9]; exact (K239 w9))⟩
      · have h241 : Im (6 ≤ pN9.length) := Im.i (by omega)
        refine mv_aload_n d_TrustDeskModel_readClause_65 rfl rfl ?_
        refine mv_iconst (v := 4) d_TrustDeskModel_readClause_66 (by decide) ?_
        obtain ⟨_, b248, -⟩ := I8.1 _ _ t17
        have : (4 : Int32).toInt = 4 := by decide
        refine mv_callV (kc' := 0) (ks' := 0) (As := [.int 4]) (st9 := [.int 4, .ref o0]) d_TrustDeskModel_readClause_67 lV_TrustDeskModel_240 b248 rfl (tc_TrustDeskModel_fails_x (d := (d + 25)) (x9 := x9) (o0 := o0) (x1 := 4) t17 R13 (by decide) Z930 I8.start) rfl (Nat.le_of_ble_eq_true rfl) (Nat.le_of_ble_eq_true rfl) (Nat.le_of_ble_eq_true rfl) (hst := rfl) (fun b242r M243 n244 b242 => ?_)
        obtain ⟨T245, J246, rfl, R249, f250, f251⟩ := b242
        have I247 := I8.call J246 (tm_sub (by decide)) (Or.inl rfl)
        have t252 := J246.up t17
        have z253 := (rv_c I8 J246 (I8.up h_o0) (k := 15) rfl).trans z18
        have z254 := (rv_c I8 J246 (I8.up h_o0) (k := 16) rfl).trans z19
        have z255 := (rv_c I8 J246 (I8.up h_o0) (k := 17) rfl).trans z20
        have z256 := (rv_c I8 J246 (I8.up h_o0) (k := 22) rfl).trans z22
        have z257 := (rv_c I8 J246 (I8.up h_o0) (k := 24) rfl).trans z23
        have z258 := (ra_call I8 J246 (I8.up h_o0) (k := 5) rfl rfl rfl 44).trans z24
        have z259 := (ra_call I8 J246 (I8.up h_o0) (k := 6) rfl rfl rfl 44).trans z25
        have E260 : rE M0 M243 o0 0 0 := E26.fails (rE_hv I8 J246 (I8.up h_o0) 15 18 (by decide)) (rE_ha I8 J246 (I8.up h_o0) (by decide)) f250 0 0
        have K261 : rK M0 M243 o0 ((880 + ra M0 o0 6 44).toNat) := K27.same (sA_c I8 J246 (I8.up h_o0) (by decide +kernel))
        have K262 : nN M243 o0 := K28.same (sA_c I8 J246 (I8.up h_o0) (by decide +kernel)) (sF_c I8 J246 (I8.up h_o0) (by decide +kernel))
        have K263 : pN M243 o0 pn pN9 := K29.same (sA_c I8 J246 (I8.up h_o0) (by decide +kernel)) (sF_c I8 J246 (I8.up h_o0) (by decide +kernel))
        rw [show (4 : Int32).toInt = 4 from by decide] at f251
        obtain ⟨s264, e265⟩ : ∃ s9 : p_S, p_fl pb pn 4 ps = s9 := ⟨_, rfl⟩
        rw [e265] at f251
        have := f251.w
        clear z18 z19 z20 z22 z23 z24 z25
        have q266 := J246.keep t17 (by decide) q33
        have t267 := J246.up t_a34
        have q268 := J246.keep t17 (by decide) q71
        refine mv_aload_n d_TrustDeskModel_readClause_70 rfl rfl ?_
        obtain ⟨_, b269, -⟩ := I247.1 _ _ t252
        refine mv_callV (kc1 := 0) (ks1 := 0) (kc' := 0) (ks' := 0) (As := []) (st9 := [.ref o0]) d_TrustDeskModel_readClause_71 lV_TrustDeskModel_230 b269 rfl (mj_enter (by decide) (Nat.le_of_ble_eq_true rfl) ?_) rfl (Nat.le_of_ble_eq_true rfl) (Nat.le_of_ble_eq_true rfl) (Nat.le_of_ble_eq_true rfl) (hst := rfl) (fun _ _ _ h => h)
        refine mv_aload_n d_TrustDeskModel_isWell_0 rfl rfl ?_
        obtain ⟨v271, q270⟩ := tm_atI I247 t252 (k := 19) rfl
        refine tr_getK q270 d_TrustDeskModel_isWell_1 f_TrustDeskModel_224_13 ?_
        have := R249.f (k := 19) q270 rfl
        have := tm_rv q270
        refine mv_if_neZ (tgt := 11) (a := v271.toInt) d_TrustDeskModel_isWell_4 (by decide) rfl (fun b272 => ?_) (fun b272 => ?_)
        · refine mv_iconst (v := 0) d_TrustDeskModel_isWell_11 (by decide) ?_
          refine mv_iret d_TrustDeskModel_isWell_12 rfl (by decide) ?_
          refine mv_if_ne_f (tgt := 78) d_TrustDeskModel_readClause_74 (by decide) (by decide) ?_
          exact mv_vret d_TrustDeskModel_readClause_77 rfl ⟨_, I247, rfl, R249, (rW.of E260.1 (fun h9 => by exfalso; skip; have := R249.1 15 _ _ rfl; have := R249.1 16 _ _ rfl; have := R249.1 19 _ _ rfl; omega) (fun h9 => by exfalso; skip; have := R249.1 15 _ _ rfl; have := R249.1 16 _ _ rfl; have := R249.1 19 _ _ rfl; omega)), (rO.of E260 K261 (by have := yR.2 6 _ _ rfl 44; omega)), ⟨E260.2.1, fun w9 => by skip; have := E260.w2 w9; omega⟩, (fun w9 => by skip; omega), (fun _ h9 => by exfalso; skip; have := R249.1 15 _ _ rfl; have := R249.1 16 _ _ rfl; have := R249.1 19 _ _ rfl; omega), (by have := R249.1 15 _ _ rfl; have := R249.1 16 _ _ rfl; have := R249.1 19 _ _ rfl; omega), (by rw [show (p_cl pb pn pa (pc9, pN9, ps)).2 = s264 from (congrArg Prod.snd (p_cl_4 (yO.w.symm.trans yw) (Or.inl (pW1 (Im.o d31) (by omega))) (Or.inr ⟨(pW1 (Im.o d31) (by omega)), Im.o h241⟩))).trans (by show _ = _; (try dsimp only); (try (first | (simp only [e265]; done) | (simp only [e265]; first | exact p_sg_Z _ (by omega) | omega))))]; exact f251), (fun w9 => by skip; omega), (fun h9 => by exfalso; skip; have := R249.1 15 _ _ rfl; have := R249.1 16 _ _ rfl; have := R249.1 19 _ _ rfl; omega)⟩
        · exfalso
          have := R249.1 15 _ _ rfl; have := R249.1 16 _ _ rfl; have := R249.1 19 _ _ rfl; omega
  · refine mv_aload_n d_TrustDeskModel_readClause_12 rfl rfl ?_
    refine mv_ldcSw (id := 43) (tx := "mark") d_TrustDeskModel_readClause_13 (List.mem_of_getElem? (i := 33) rfl) ?_
    obtain ⟨_, b279, -⟩ := I8.1 _ _ t17
    refine mv_callV (kc' := 0) (ks' := 0) (As := [.ref 43]) (st9 := [.ref 43, .ref o0]) d_TrustDeskModel_readClause_16 lV_TrustDeskModel_244 b279 rfl (tc_TrustDeskModel_isWord_s1_43_x (d := (d + 21)) (x9 := x9) (o0 := o0) t17 R13 I8.start) rfl (Nat.le_of_ble_eq_true rfl) (Nat.le_of_ble_eq_true rfl) (Nat.le_of_ble_eq_true rfl) (hst := rfl) (fun b273r M274 n275 b273 => ?_)
    obtain ⟨T276, J277, v280, rfl, b281, b282, R283, f284, f285, f286⟩ := b273
    have I278 := I8.call J277 (tm_sub (by decide)) (Or.inl rfl)
    have t287 := J277.up t17
    replace f284 := Im.i f284
    replace f285 := Im.i f285
    replace f286 := Im.i f286
    have z288 := (rv_c I8 J277 (I8.up h_o0) (k := 15) rfl).trans z18
    have z289 := (rv_c I8 J277 (I8.up h_o0) (k := 16) rfl).trans z19
    have z290 := (rv_c I8 J277 (I8.up h_o0) (k := 17) rfl).trans z20
    have z291 := (rv_c I8 J277 (I8.up h_o0) (k := 19) rfl).trans z21
    have z292 := (rv_c I8 J277 (I8.up h_o0) (k := 22) rfl).trans z22
    have z293 := (rv_c I8 J277 (I8.up h_o0) (k := 24) rfl).trans z23
    have z294 := (ra_call I8 J277 (I8.up h_o0) (k := 5) rfl rfl rfl 44).trans z24
    have z295 := (ra_call I8 J277 (I8.up h_o0) (k := 6) rfl rfl rfl 44).trans z25
    have E296 : rE M0 M274 o0 0 0 := E26.same (rE_hv I8 J277 (I8.up h_o0) 15 19 (by decide)) (rE_ha I8 J277 (I8.up h_o0) (by decide))
    have K297 : rK M0 M274 o0 ((880 + ra M0 o0 6 44).toNat) := K27.same (sA_c I8 J277 (I8.up h_o0) (by decide +kernel))
    have K298 : nN M274 o0 := K28.same (sA_c I8 J277 (I8.up h_o0) (by decide +kernel)) (sF_c I8 J277 (I8.up h_o0) (by decide +kernel))
    have K299 : pN M274 o0 pn pN9 := K29.same (sA_c I8 J277 (I8.up h_o0) (by decide +kernel)) (sF_c I8 J277 (I8.up h_o0) (by decide +kernel))
    have Z9300 : pO M274 o0 pb pn pa ps := Z930.same (rE_hv I8 J277 (I8.up h_o0) 14 20 (by decide)) (rv_c I8 J277 (I8.up h_o0) (k := 23) rfl) (ra_call I8 J277 (I8.up h_o0) (k := 13) rfl rfl rfl)
    have d301 := Im.i (pO.w_24 Z930 (by have := R13.1 15 _ _ rfl; have := R13.1 16 _ _ rfl; have := R13.1 19 _ _ rfl; omega) (Im.o f285) (Im.o f286) (by have := R13.1 15 _ _ rfl; have := R13.1 16 _ _ rfl; have := R13.1 19 _ _ rfl; omega))
    clear z22 z23 z24 z25
    have := mz_hi v280
    refine mv_if_neZ (tgt := 40) (a := v280.toInt) d_TrustDeskModel_readClause_19 (by decide) rfl (fun b302 => ?_) (fun b302 => ?_)
    · refine mv_aload_n d_TrustDeskModel_readClause_40 rfl rfl ?_
      obtain ⟨a304, q303, t_a304⟩ := tm_atR I278 t287 (k := 6) rfl
      refine tr_getK q303 d_TrustDeskModel_readClause_41 f_TrustDeskModel_23_13 ?_
      refine mv_bipush (v := 44) d_TrustDeskModel_readClause_44 (by decide) ?_
      refine tr_ialdR (o := o0) (k := 6) I278 q303 t_a304 (by decide) d_TrustDeskModel_readClause_46 (by unfold vp_in; decide) (fun v305 e306 => ?_)
      have := R283.a (k := 6) rfl (44 : Int32).toNatClampNeg
      have : v305.toInt = ra M274 o0 6 44 := e306
      have : v305.toInt = _ := Eq.trans e306 z295
      refine mv_bipush (v := 12) d_TrustDeskModel_readClause_47 (by decide) ?_
      have := mz_hi v305
      refine mv_icmp_eqZ (tgt := 65) (a := v305.toInt) (b := 12) d_TrustDeskModel_readClause_49 (by decide) rfl (by decide) (fun b307 => ?_) (fun b307 => ?_)
      · have h308 : Im (12 ≤ pc9) := Im.i (by omega)
        refine mv_aload_n d_TrustDeskModel_readClause_65 rfl rfl ?_
        refine mv_iconst (v := 4) d_TrustDeskModel_readClause_66 (by decide) ?_
        obtain ⟨_, b315, -⟩ := I278.1 _ _ t287
        have : (4 : Int32).toInt = 4 := by decide
        refine mv_callV (kc' := 0) (ks' := 0) (As := [.int 4]) (st9 := [.int 4, .ref o0]) d_TrustDeskModel_readClause_67 lV_TrustDeskModel_240 b315 rfl (tc_TrustDeskModel_fails_x (d := (d + 25)) (x9 := x9) (o0 := o0) (x1 := 4) t287 R283 (by decide) Z9300 I278.start) rfl (Nat.le_of_ble_eq_true rfl) (Nat.le_of_ble_eq_true rfl) (Nat.le_of_ble_eq_true rfl) (hst := rfl) (fun b309r M310 n311 b309 => ?_)
        obtain ⟨T312, J313, rfl, R316, f317, f318⟩ := b309
        have I314 := I278.call J313 (tm_sub (by decide)) (Or.inl rfl)
        have t319 := J313.up t287
        have z320 := (rv_c I278 J313 (I278.up h_o0) (k := 15) rfl).trans z288
        have z321 := (rv_c I278 J313 (I278.up h_o0) (k := 16) rfl).trans z289
        have z322 := (rv_c I278 J313 (I278.up h_o0) (k := 17) rfl).trans z290
        have z323 := (rv_c I278 J313 (I278.up h_o0) (k := 22) rfl).trans z292
        have z324 := (rv_c I278 J313 (I278.up h_o0) (k := 24) rfl).trans z293
        have z325 := (ra_call I278 J313 (I278.up h_o0) (k := 5) rfl rfl rfl 44).trans z294
        have z326 := (ra_call I278 J313 (I278.up h_o0) (k := 6) rfl rfl rfl 44).trans z295
        have E327 : rE M0 M310 o0 0 0 := E296.fails (rE_hv I278 J313 (I278.up h_o0) 15 18 (by decide)) (rE_ha I278 J313 (I278.up h_o0) (by decide)) f317 0 0
        have K328 : rK M0 M310 o0 ((880 + ra M0 o0 6 44).toNat) := K297.same (sA_c I278 J313 (I278.up h_o0) (by decide +kernel))
        have K329 : nN M310 o0 := K298.same (sA_c I278 J313 (I278.up h_o0) (by decide +kernel)) (sF_c I278 J313 (I278.up h_o0) (by decide +kernel))
        have K330 : pN M310 o0 pn pN9 := K299.same (sA_c I278 J313 (I278.up h_o0) (by decide +kernel)) (sF_c I278 J313 (I278.up h_o0) (by decide +kernel))
        rw [show (4 : Int32).toInt = 4 from by decide] at f318
        obtain ⟨s331, e332⟩ : ∃ s9 : p_S, p_fl pb pn 4 ps = s9 := ⟨_, rfl⟩
        rw [e332] at f318
        have := f318.w
        clear z288 z289 z290 z292 z293 z294 z295
        have q333 := J313.keep t287 (by decide) q303
        have t334 := J313.up t_a304
        refine mv_aload_n d_TrustDeskModel_readClause_70 rfl rfl ?_
        obtain ⟨_, b335, -⟩ := I314.1 _ _ t319
        refine mv_callV (kc1 := 0) (ks1 := 0) (kc' := 0) (ks' := 0) (As := []) (st9 := [.ref o0]) d_TrustDeskModel_readClause_71 lV_TrustDeskModel_230 b335 rfl (mj_enter (by decide) (Nat.le_of_ble_eq_true rfl) ?_) rfl (Nat.le_of_ble_eq_true rfl) (Nat.le_of_ble_eq_true rfl) (Nat.le_of_ble_eq_true rfl) (hst := rfl) (fun _ _ _ h => h)
        refine mv_aload_n d_TrustDeskModel_isWell_0 rfl rfl ?_
        obtain ⟨v337, q336⟩ := tm_atI I314 t319 (k := 19) rfl
        refine tr_getK q336 d_TrustDeskModel_isWell_1 f_TrustDeskModel_224_13 ?_
        have := R316.f (k := 19) q336 rfl
        have := tm_rv q336
        refine mv_if_neZ (tgt := 11) (a := v337.toInt) d_TrustDeskModel_isWell_4 (by decide) rfl (fun b338 => ?_) (fun b338 => ?_)
        · refine mv_iconst (v := 0) d_TrustDeskModel_isWell_11 (by decide) ?_
          refine mv_iret d_TrustDeskModel_isWell_12 rfl (by decide) ?_
          refine mv_if_ne_f (tgt := 78) d_TrustDeskModel_readClause_74 (by decide) (by decide) ?_
          exact mv_vret d_TrustDeskModel_readClause_77 rfl ⟨_, I314, rfl, R316, (rW.of E327.1 (fun h9 => by exfalso; skip; have := R316.1 15 _ _ rfl; have := R316.1 16 _ _ rfl; have := R316.1 19 _ _ rfl; omega) (fun h9 => by exfalso; skip; have := R316.1 15 _ _ rfl; have := R316.1 16 _ _ rfl; have := R316.1 19 _ _ rfl; omega)), (rO.of E327 K328 (by have := yR.2 6 _ _ rfl 44; omega)), ⟨E327.2.1, fun w9 => by skip; have := E327.w2 w9; omega⟩, (fun w9 => by skip; omega), (fun _ h9 => by exfalso; skip; have := R316.1 15 _ _ rfl; have := R316.1 16 _ _ rfl; have := R316.1 19 _ _ rfl; omega), (by have := R316.1 15 _ _ rfl; have := R316.1 16 _ _ rfl; have := R316.1 19 _ _ rfl; omega), (by rw [show (p_cl pb pn pa (pc9, pN9, ps)).2 = s331 from (congrArg Prod.snd (p_cl_4 (yO.w.symm.trans yw) (Or.inr (Or.inl (pW1 (Im.o d301) (by omega)))) (Or.inl (Im.o h308)))).trans (by show _ = _; (try dsimp only); (try (first | (simp only [e332]; done) | (simp only [e332]; first | exact p_sg_Z _ (by omega) | omega))))]; exact f318), (fun w9 => by skip; omega), (fun h9 => by exfalso; skip; have := R316.1 15 _ _ rfl; have := R316.1 16 _ _ rfl; have := R316.1 19 _ _ rfl; omega)⟩
        · exfalso
          have := R316.1 15 _ _ rfl; have := R316.1 16 _ _ rfl; have := R316.1 19 _ _ rfl; omega
      · have h339 : Im (¬ 12 ≤ pc9) := Im.i (by omega)
        refine mv_iload_n d_TrustDeskModel_readClause_52 rfl rfl ?_
        have := mz_hi v10
        refine mv_if_eqZ (tgt := 70) (a := v10.toInt) d_TrustDeskModel_readClause_53 (by decide) rfl (fun b340 => ?_) (fun b340 => absurd b340 (by omega))
        refine mv_aload_n d_TrustDeskModel_readClause_70 rfl rfl ?_
        obtain ⟨_, b342, -⟩ := I278.1 _ _ t287
        refine mv_callV (kc1 := 0) (ks1 := 0) (kc' := 0) (ks' := 0) (As := []) (st9 := [.ref o0]) d_TrustDeskModel_readClause_71 lV_TrustDeskModel_230 b342 rfl (mj_enter (by decide) (Nat.le_of_ble_eq_true rfl) ?_) rfl (Nat.le_of_ble_eq_true rfl) (Nat.le_of_ble_eq_true rfl) (Nat.le_of_ble_eq_true rfl) (hst := rfl) (fun _ _ _ h => h)
        refine mv_aload_n d_TrustDeskModel_isWell_0 rfl rfl ?_
        obtain ⟨v344, q343⟩ := tm_atI I278 t287 (k := 19) rfl
        refine tr_getK q343 d_TrustDeskModel_isWell_1 f_TrustDeskModel_224_13 ?_
        have := R283.f (k := 19) q343 rfl
        have := (tm_rv q343).symm.trans z291
        have := tm_rv q343
        have := mz_hi v344
        refine mv_if_neZ (tgt := 11) (a := v344.toInt) d_TrustDeskModel_isWell_4 (by decide) rfl (fun b345 => ?_) (fun b345 => ?_)
        · refine mv_iconst (v := 0) d_TrustDeskModel_isWell_11 (by decide) ?_
          refine mv_iret d_TrustDeskModel_isWell_12 rfl (by decide) ?_
          refine mv_if_ne_f (tgt := 78) d_TrustDeskModel_readClause_74 (by decide) (by decide) ?_
          exact mv_vret d_TrustDeskModel_readClause_77 rfl ⟨_, I278, rfl, R283, (rW.of E296.1 (E296.s yS (by decide)) (fun w9 => by skip; exact rG.step yG yR E296 w9 K297 (by have := yR.2 6 _ _ rfl 44; omega) (by have := R283.1 15 _ _ rfl; have := R283.1 16 _ _ rfl; have := R283.1 19 _ _ rfl; omega) (by have := R283.1 15 _ _ rfl; have := R283.1 16 _ _ rfl; have := R283.1 19 _ _ rfl; omega) (fun h9 => by exfalso; have := R283.1 15 _ _ rfl; have := R283.1 16 _ _ rfl; have := R283.1 19 _ _ rfl; omega) (fun h9 => (by have := R283.1 15 _ _ rfl; have := R283.1 16 _ _ rfl; have := R283.1 19 _ _ rfl; omega)) (by have := R283.1 15 _ _ rfl; have := R283.1 16 _ _ rfl; have := R283.1 19 _ _ rfl; omega) K298)), (rO.of E296 K297 (by have := yR.2 6 _ _ rfl 44; omega)), ⟨E296.2.1, fun w9 => by skip; have := E296.w2 w9; omega⟩, (fun w9 => by skip; omega), (fun _ h9 => absurd h9 (by have := R283.1 15 _ _ rfl; have := R283.1 16 _ _ rfl; have := R283.1 19 _ _ rfl; omega)), (by have := R283.1 15 _ _ rfl; have := R283.1 16 _ _ rfl; have := R283.1 19 _ _ rfl; omega), (by rw [show (p_cl pb pn pa (pc9, pN9, ps)).2 = ps from (congrArg Prod.snd (p_cl_nz (by omega))).trans (by show _ = _; (try dsimp only); (try (first | (simp only [eq_self]; done) | (simp only [eq_self]; first | exact p_sg_Z _ (by omega) | omega))))]; exact Z9300), (fun w9 => by skip; omega), (fun h9 => by exfalso; skip; have := R283.1 15 _ _ rfl; have := R283.1 16 _ _ rfl; have := R283.1 19 _ _ rfl; omega)⟩
        · refine mv_iconst (v := 1) d_TrustDeskModel_isWell_7 (by decide) ?_
          refine mv_goto (tgt := 12) d_TrustDeskModel_isWell_8 (by decide) ?_
          refine mv_iret d_TrustDeskModel_isWell_12 rfl (by decide) ?_
          refine mv_if_ne_t (tgt := 78) d_TrustDeskModel_readClause_74 (by decide) (by decide) ?_
          refine mv_aload_n d_TrustDeskModel_readClause_78 rfl rfl ?_
          refine mv_ldcSw (id := 43) (tx := "mark") d_TrustDeskModel_readClause_79 (List.mem_of_getElem? (i := 33) rfl) ?_
          obtain ⟨_, b352, -⟩ := I278.1 _ _ t287
          refine mv_callV (kc' := 0) (ks' := 0) (As := [.ref 43]) (st9 := [.ref 43, .ref o0]) d_TrustDeskModel_readClause_82 lV_TrustDeskModel_244 b352 rfl (tc_TrustDeskModel_isWord_s1_43_x (d := (d + 21)) (x9 := x9) (o0 := o0) t287 R283 I278.start) rfl (Nat.le_of_ble_eq_true rfl) (Nat.le_of_ble_eq_true rfl) (Nat.le_of_ble_eq_true rfl) (hst := rfl) (fun b346r M347 n348 b346 => ?_)
          obtain ⟨T349, J350, v353, rfl, b354, b355, R356, f357, f358, f359⟩ := b346
          have I351 := I278.call J350 (tm_sub (by decide)) (Or.inl rfl)
          have t360 := J350.up t287
          replace f357 := Im.i f357
          replace f358 := Im.i f358
          replace f359 := Im.i f359
          have z361 := (rv_c I278 J350 (I278.up h_o0) (k := 15) rfl).trans z288
          have z362 := (rv_c I278 J350 (I278.up h_o0) (k := 16) rfl).trans z289
          have z363 := (rv_c I278 J350 (I278.up h_o0) (k := 17) rfl).trans z290
          have z364 := (rv_c I278 J350 (I278.up h_o0) (k := 19) rfl).trans z291
          have z365 := (rv_c I278 J350 (I278.up h_o0) (k := 22) rfl).trans z292
          have z366 := (rv_c I278 J350 (I278.up h_o0) (k := 24) rfl).trans z293
          have z367 := (ra_call I278 J350 (I278.up h_o0) (k := 5) rfl rfl rfl 44).trans z294
          have z368 := (ra_call I278 J350 (I278.up h_o0) (k := 6) rfl rfl rfl 44).trans z295
          have E369 : rE M0 M347 o0 0 0 := E296.same (rE_hv I278 J350 (I278.up h_o0) 15 19 (by decide)) (rE_ha I278 J350 (I278.up h_o0) (by decide))
          have K370 : rK M0 M347 o0 ((880 + ra M0 o0 6 44).toNat) := K297.same (sA_c I278 J350 (I278.up h_o0) (by decide +kernel))
          have K371 : nN M347 o0 := K298.same (sA_c I278 J350 (I278.up h_o0) (by decide +kernel)) (sF_c I278 J350 (I278.up h_o0) (by decide +kernel))
          have K372 : pN M347 o0 pn pN9 := K299.same (sA_c I278 J350 (I278.up h_o0) (by decide +kernel)) (sF_c I278 J350 (I278.up h_o0) (by decide +kernel))
          have Z9373 : pO M347 o0 pb pn pa ps := Z9300.same (rE_hv I278 J350 (I278.up h_o0) 14 20 (by decide)) (rv_c I278 J350 (I278.up h_o0) (k := 23) rfl) (ra_call I278 J350 (I278.up h_o0) (k := 13) rfl rfl rfl)
          have d374 := Im.i (pO.w_24 Z9300 (by have := R283.1 15 _ _ rfl; have := R283.1 16 _ _ rfl; have := R283.1 19 _ _ rfl; omega) (Im.o f358) (Im.o f359) (by have := R283.1 15 _ _ rfl; have := R283.1 16 _ _ rfl; have := R283.1 19 _ _ rfl; omega))
          clear z292 z293 z294 z295
          have q375 := J350.keep t287 (by decide) q303
          have t376 := J350.up t_a304
          have q377 := J350.keep t287 (by decide) q343
          refine mv_istore_n (lv' := [(2, .int v353), (1, .int v10), (0, .ref o0)]) d_TrustDeskModel_readClause_85 rfl (by decide) rfl ?_
          refine mv_aload_n d_TrustDeskModel_readClause_86 rfl rfl ?_
          refine mv_iload_n d_TrustDeskModel_readClause_87 rfl rfl ?_
          have := mz_hi v10
          refine mv_if_eqZ (tgt := 96) (a := v10.toInt) d_TrustDeskModel_readClause_88 (by decide) rfl (fun b378 => ?_) (fun b378 => absurd b378 (by omega))
          refine mv_iload_n d_TrustDeskModel_readClause_96 rfl rfl ?_
          have := mz_hi v353
          refine mv_if_eqZ (tgt := 105) (a := v353.toInt) d_TrustDeskModel_readClause_97 (by decide) rfl (fun b379 => ?_) (fun b379 => ?_)
          · refine mv_bipush (v := 9) d_TrustDeskModel_readClause_105 (by decide) ?_
            obtain ⟨_, b386, -⟩ := I351.1 _ _ t360
            have : (9 : Int32).toInt = 9 := by decide
            refine mv_callV (kc' := 0) (ks' := 0) (As := [.int 9]) (st9 := [.int 9, .ref o0]) d_TrustDeskModel_readClause_107 lV_TrustDeskModel_342 b386 rfl (tc_TrustDeskModel_begin_x (d := (d + 23)) (x9 := x9) (o0 := o0) (x1 := 9) t360 R356 E369.1 (E369.s yS (by decide)) (by have := R356.1 15 _ _ rfl; have := R356.1 16 _ _ rfl; have := R356.1 19 _ _ rfl; omega) (by have := f284.o (by omega); omega) (by have := R356.1 15 _ _ rfl; have := R356.1 16 _ _ rfl; have := R356.1 19 _ _ rfl; omega) Z9373 I351.start) rfl (Nat.le_of_ble_eq_true rfl) (Nat.le_of_ble_eq_true rfl) (Nat.le_of_ble_eq_true rfl) (hst := rfl) (fun b380r M381 n382 b380 => ?_)
            obtain ⟨T383, J384, v387, rfl, R388, f389, f390, f391, f392, f393, f394, f395⟩ := b380
            have I385 := I351.call J384 (tm_sub (by decide)) (Or.inl rfl)
            have t396 := J384.up t360
            have := f389.2.1
            have f397 := Im.i f389.w.2
            have f398 := Im.i f389.w2
            have z399 := (rv_c I351 J384 (I351.up h_o0) (k := 19) rfl).trans z364
            have z400 := (rv_c I351 J384 (I351.up h_o0) (k := 22) rfl).trans z365
            have z401 := (rv_c I351 J384 (I351.up h_o0) (k := 24) rfl).trans z366
            have z402 := (ra_call I351 J384 (I351.up h_o0) (k := 5) rfl rfl rfl 44).trans z367
            have E403 : rE M0 M381 o0 0 1 := E369.trans f389 (by decide) (yR.2 5 _ _ rfl 44).1 (by decide) (by decide)
            have h404 : (880 + ra M347 o0 6 44).toNat = (880 + ra M0 o0 6 44).toNat := by omega
            rw [h404] at f392 f393 f394
            have K405 : rK M0 M381 o0 ((880 + ra M0 o0 6 44).toNat) := K370.trans f394
            have K406 : nN M381 o0 := K371.same (sA_c I351 J384 (I351.up h_o0) (by decide +kernel)) (sF_c I351 J384 (I351.up h_o0) (by decide +kernel))
            have K407 : pN M381 o0 pn pN9 := K372.same (sA_c I351 J384 (I351.up h_o0) (by decide +kernel)) (sF_c I351 J384 (I351.up h_o0) (by decide +kernel))
            obtain ⟨s408, e409⟩ : ∃ s9 : p_S, p_nx ps = s9 := ⟨_, rfl⟩
            rw [e409] at f395
            have := f395.w
            clear z365 z366
            have q410 := J384.keep t360 (by decide) q375
            have t411 := J384.up t376
            have q412 := J384.keep t360 (by decide) q377
            refine mv_istore_n (lv' := [(3, .int v387), (2, .int v353), (1, .int v10), (0, .ref o0)]) d_TrustDeskModel_readClause_110 rfl (by decide) rfl ?_
            refine mv_iload_n d_TrustDeskModel_readClause_111 rfl rfl ?_
            have := mz_hi v10
            refine mv_if_eqZ (tgt := 123) (a := v10.toInt) d_TrustDeskModel_readClause_112 (by decide) rfl (fun b413 => ?_) (fun b413 => absurd b413 (by omega))
            refine mv_iload_n d_TrustDeskModel_readClause_123 rfl rfl ?_
            have := mz_hi v353
            refine mv_if_eqZ (tgt := 135) (a := v353.toInt) d_TrustDeskModel_readClause_124 (by decide) rfl (fun b414 => ?_) (fun b414 => absurd b414 (by omega))
            refine mv_aload_n d_TrustDeskModel_readClause_135 rfl rfl ?_
            obtain ⟨a416, q415, t_a416⟩ := tm_atR I385 t396 (k := 8) rfl
            refine tr_getK q415 d_TrustDeskModel_readClause_136 f_TrustDeskModel_29_13 ?_
            refine mv_iload_n d_TrustDeskModel_readClause_139 rfl rfl ?_
            refine mv_aload_n d_TrustDeskModel_readClause_140 rfl rfl ?_
            refine mv_iconst (v := 1) d_TrustDeskModel_readClause_141 (by decide) ?_
            refine mv_bipush (v := 7) d_TrustDeskModel_readClause_142 (by decide) ?_
            obtain ⟨_, b423, -⟩ := I385.1 _ _ t396
            have : (1 : Int32).toInt = 1 := by decide
            have : (7 : Int32).toInt = 7 := by decide
            refine mv_callV (kc' := 0) (ks' := 0) (As := [.int 1, .int 7]) (st9 := [.int 7, .int 1, .ref o0, .int v387, .ref a416]) d_TrustDeskModel_readClause_144 lV_TrustDeskModel_317 b423 rfl (tc_TrustDeskModel_number_x (d := (d + 23)) (x9 := x9) (o0 := o0) (x1 := 1) (x2 := 7) t396 R388 E403.1 (E403.s yS (by decide)) f395 I385.start) rfl (Nat.le_of_ble_eq_true rfl) (Nat.le_of_ble_eq_true rfl) (Nat.le_of_ble_eq_true rfl) (hst := rfl) (fun b417r M418 n419 b417 => ?_)
            obtain ⟨T420, J421, v424, rfl, R425, f426, f427, f428, f429⟩ := b417
            have I422 := I385.call J421 (tm_sub (by decide)) (Or.inl rfl)
            have t430 := J421.up t396
            have t431 := J421.up t_a416
            have := f426.2.1
            have f432 := Im.i f426.w.2
            have f433 := Im.i f426.w2
            replace f429 := Im.i f429
            have z434 := (rv_c I385 J421 (I385.up h_o0) (k := 22) rfl).trans z400
            have z435 := (rv_c I385 J421 (I385.up h_o0) (k := 24) rfl).trans z401
            have z436 := (ra_call I385 J421 (I385.up h_o0) (k := 5) rfl rfl rfl 44).trans z402
            have z437 := (ra_call I385 J421 (I385.up h_o0) (k := 6) rfl rfl rfl 44)
            have z438 := (ra_call I385 J421 (I385.up h_o0) (k := 7) rfl rfl rfl ((880 + ra M0 o0 6 44).toNat))
            have z439 := (ra_call I385 J421 (I385.up h_o0) (k := 10) rfl rfl rfl ((880 + ra M0 o0 6 44).toNat))
            have E440 : rE M0 M418 o0 0 2 := E403.trans f426 (by decide) (yR.2 5 _ _ rfl 44).1 (by decide) (by decide)
            have K441 : rK M0 M418 o0 ((880 + ra M0 o0 6 44).toNat) := K405.same (sA_c I385 J421 (I385.up h_o0) (by decide +kernel))
            have K442 : nN M418 o0 := K406.same (sA_c I385 J421 (I385.up h_o0) (by decide +kernel)) (sF_c I385 J421 (I385.up h_o0) (by decide +kernel))
            have K443 : pN M418 o0 pn pN9 := K407.same (sA_c I385 J421 (I385.up h_o0) (by decide +kernel)) (sF_c I385 J421 (I385.up h_o0) (by decide +kernel))
            rw [show (1 : Int32).toInt = 1 from by decide] at f428
            rw [show (7 : Int32).toInt = 7 from by decide] at f428
            obtain ⟨s444, e445⟩ : ∃ s9 : p_S, p_num pb pn 1 7 s408 = s9 := ⟨_, rfl⟩
            rw [e445] at f428
            have := f428.w
            clear z400 z401 z402
            have q446 := J421.keep t396 (by decide) q410
            have t447 := J421.up t411
            have q448 := J421.keep t396 (by decide) q415
            refine tr_iastR (k := 8) I422 R425 (I422.up h_o0) q448 t431 (by decide) (by decide) (fun lo hi h => by cases h; have := R425.1 15 _ _ rfl; have := R425.1 16 _ _ rfl; have := R425.1 19 _ _ rfl; exact ⟨by show ((-1) : Int) ≤ v424.toInt; omega, by show v424.toInt ≤ (720 : Int); omega⟩) (Or.inl (by decide)) d_TrustDeskModel_readClause_147 (vp_in_iff.mpr (by have := R425.1 15 _ _ rfl; have := R425.1 16 _ _ rfl; have := R425.1 19 _ _ rfl; omega)) (fun M449 I450 K451 R452 E453 A454 V455 => ?_)
            have z456 := (V455 15)
            have z457 := (V455 16)
            have z458 := (V455 17)
            have z459 := (V455 19)
            have z460 := (V455 22).trans z434
            have z461 := (V455 24).trans z435
            have z462 := (A454 5 (by decide) rfl 44).trans z436
            have z463 := (A454 6 (by decide) rfl 44).trans z437
            have z464 := (A454 7 (by decide) rfl ((880 + ra M0 o0 6 44).toNat)).trans z438
            have z465 := (A454 10 (by decide) rfl ((880 + ra M0 o0 6 44).toNat)).trans z439
            have E466 : rE M0 M449 o0 0 2 := E440.same (fun k _ _ => V455 k) (fun k h1 h2 => A454 k (by omega) (by rcases (show k = 4 ∨ k = 5 by omega) with rfl | rfl <;> rfl))
            have h467 : (880 + ra M0 o0 6 44).toNat = v387.toNatClampNeg := by have := mz_nat9 (i := v387) (by have := R425.1 15 _ _ rfl; have := R425.1 16 _ _ rfl; have := R425.1 19 _ _ rfl; omega); have := R425.1 15 _ _ rfl; have := R425.1 16 _ _ rfl; have := R425.1 19 _ _ rfl; omega
            have z468 : ra M449 o0 8 ((880 + ra M0 o0 6 44).toNat) = v424.toInt := (E453 _).trans (if_pos h467)
            have K469 : rK M0 M449 o0 ((880 + ra M0 o0 6 44).toNat) := K441.st A454 E453 (by have := mz_nat9 (i := v387) (by have := R425.1 15 _ _ rfl; have := R425.1 16 _ _ rfl; have := R425.1 19 _ _ rfl; omega); have := R425.1 15 _ _ rfl; have := R425.1 16 _ _ rfl; have := R425.1 19 _ _ rfl; omega)
            have K470 : nN M449 o0 := K442.same (sA_a A454 (by decide +kernel)) (sF_a V455)
            have K471 : pN M449 o0 pn pN9 := K443.same (sA_a A454 (by decide +kernel)) (sF_a V455)
            have Z9472 : pO M449 o0 pb pn pa s444 := f428.same (fun k _ _ => V455 k) (V455 23) (A454 13 (by decide) rfl)
            clear z434 z435 z436 z437 z438 z439
            refine mv_aload_n d_TrustDeskModel_readClause_148 rfl rfl ?_
            obtain ⟨a474, q473, t_a474⟩ := tm_atR I450 t430 (k := 9) rfl
            refine tr_getK q473 d_TrustDeskModel_readClause_149 f_TrustDeskModel_32_13 ?_
            refine mv_iload_n d_TrustDeskModel_readClause_152 rfl rfl ?_
            refine mv_aload_n d_TrustDeskModel_readClause_153 rfl rfl ?_
            refine mv_iconst (v := 1) d_TrustDeskModel_readClause_154 (by decide) ?_
            refine mv_aload_n d_TrustDeskModel_readClause_155 rfl rfl ?_
            refine tr_getK (k := 8) (K451 _ 13 8 _ q448) d_TrustDeskModel_readClause_156 f_TrustDeskModel_29_13 ?_
            refine mv_iload_n d_TrustDeskModel_readClause_159 rfl rfl ?_
            refine tr_ialdR (o := o0) (k := 8) I450 (K451 _ 13 8 _ q448) t431 (by decide) d_TrustDeskModel_readClause_160 (vp_in_iff.mpr (by have := R452.1 15 _ _ rfl; have := R452.1 16 _ _ rfl; have := R452.1 19 _ _ rfl; omega)) (fun v475 e476 => ?_)
            have := R452.a (k := 8) rfl (v387 : Int32).toNatClampNeg
            have h477 : (880 + ra M0 o0 6 44).toNat = v387.toNatClampNeg := by have := mz_nat9 (i := v387) (by have := R452.1 15 _ _ rfl; have := R452.1 16 _ _ rfl; have := R452.1 19 _ _ rfl; omega); have := R452.1 15 _ _ rfl; have := R452.1 16 _ _ rfl; have := R452.1 19 _ _ rfl; omega
            have z478 : v475.toInt = ra M449 o0 8 ((880 + ra M0 o0 6 44).toNat) := by rw [e476, h477]
            have : v475.toInt = _ := Eq.trans z478 z468
            obtain ⟨_, b485, -⟩ := I450.1 _ _ t430
            have : (1 : Int32).toInt = 1 := by decide
            refine mv_callV (kc' := 0) (ks' := 0) (As := [.int 1, .int v475]) (st9 := [.int v475, .int 1, .ref o0, .int v387, .ref a474]) d_TrustDeskModel_readClause_161 lV_TrustDeskModel_317 b485 rfl (tc_TrustDeskModel_number_x (d := (d + 23)) (x9 := x9) (o0 := o0) (x1 := 1) (x2 := v475) t430 R452 E466.1 (E466.s yS (by decide)) Z9472 I450.start) rfl (Nat.le_of_ble_eq_true rfl) (Nat.le_of_ble_eq_true rfl) (Nat.le_of_ble_eq_true rfl) (hst := rfl) (fun b479r M480 n481 b479 => ?_)
            obtain ⟨T482, J483, v486, rfl, R487, f488, f489, f490, f491⟩ := b479
            have I484 := I450.call J483 (tm_sub (by decide)) (Or.inl rfl)
            have t492 := J483.up t430
            have t493 := J483.up t_a474
            have := f488.2.1
            have f494 := Im.i f488.w.2
            have f495 := Im.i f488.w2
            replace f491 := Im.i f491
            have z496 := (rv_c I450 J483 (I450.up h_o0) (k := 22) rfl).trans z460
            have z497 := (rv_c I450 J483 (I450.up h_o0) (k := 24) rfl).trans z461
            have z498 := (ra_call I450 J483 (I450.up h_o0) (k := 5) rfl rfl rfl 44).trans z462
            have z499 := (ra_call I450 J483 (I450.up h_o0) (k := 6) rfl rfl rfl 44).trans z463
            have z500 := (ra_call I450 J483 (I450.up h_o0) (k := 7) rfl rfl rfl ((880 + ra M0 o0 6 44).toNat)).trans z464
            have z501 := (ra_call I450 J483 (I450.up h_o0) (k := 10) rfl rfl rfl ((880 + ra M0 o0 6 44).toNat)).trans z465
            have z502 := (ra_call I450 J483 (I450.up h_o0) (k := 8) rfl rfl rfl ((880 + ra M0 o0 6 44).toNat)).trans z468
            have E503 : rE M0 M480 o0 0 3 := E466.trans f488 (by decide) (yR.2 5 _ _ rfl 44).1 (by decide) (by decide)
            have K504 : rK M0 M480 o0 ((880 + ra M0 o0 6 44).toNat) := K469.same (sA_c I450 J483 (I450.up h_o0) (by decide +kernel))
            have K505 : nN M480 o0 := K470.same (sA_c I450 J483 (I450.up h_o0) (by decide +kernel)) (sF_c I450 J483 (I450.up h_o0) (by decide +kernel))
            have K506 : pN M480 o0 pn pN9 := K471.same (sA_c I450 J483 (I450.up h_o0) (by decide +kernel)) (sF_c I450 J483 (I450.up h_o0) (by decide +kernel))
            rw [show (1 : Int32).toInt = 1 from by decide] at f490
            obtain ⟨s507, e508⟩ : ∃ s9 : p_S, p_num pb pn 1 v475.toInt s444 = s9 := ⟨_, rfl⟩
            rw [e508] at f490
            have := f490.w
            have q509 : v475.toInt = v424.toInt := by omega
            have q510 := Im.i (fun h9 : s444.1 = 0 => q509.trans (f429.o (f428.w.trans h9)))
            clear z460 z461 z462 z463 z464 z465 z468
            have q511 := J483.keep t430 (by decide) (K451 _ 13 6 _ q446)
            have t512 := J483.up t447
            have q513 := J483.keep t430 (by decide) (K451 _ 13 8 _ q448)
            have t514 := J483.up t431
            have q515 := J483.keep t430 (by decide) q473
            refine tr_iastR (k := 9) I484 R487 (I484.up h_o0) q515 t493 (by decide) (by decide) (fun lo hi h => by cases h) (Or.inl (by decide)) d_TrustDeskModel_readClause_164 (vp_in_iff.mpr (by have := R487.1 15 _ _ rfl; have := R487.1 16 _ _ rfl; have := R487.1 19 _ _ rfl; omega)) (fun M516 I517 K518 R519 E520 A521 V522 => ?_)
            have z523 := (V522 15)
            have z524 := (V522 16)
            have z525 := (V522 17)
            have z526 := (V522 19)
            have z527 := (V522 22).trans z496
            have z528 := (V522 24).trans z497
            have z529 := (A521 5 (by decide) rfl 44).trans z498
            have z530 := (A521 6 (by decide) rfl 44).trans z499
            have z531 := (A521 7 (by decide) rfl ((880 + ra M0 o0 6 44).toNat)).trans z500
            have z532 := (A521 10 (by decide) rfl ((880 + ra M0 o0 6 44).toNat)).trans z501
            have z533 := (A521 8 (by decide) rfl ((880 + ra M0 o0 6 44).toNat)).trans z502
            have E534 : rE M0 M516 o0 0 3 := E503.same (fun k _ _ => V522 k) (fun k h1 h2 => A521 k (by omega) (by rcases (show k = 4 ∨ k = 5 by omega) with rfl | rfl <;> rfl))
            have K535 : rK M0 M516 o0 ((880 + ra M0 o0 6 44).toNat) := K504.same (sA_a A521 (by decide +kernel))
            have K536 : nN M516 o0 := K505.same (sA_a A521 (by decide +kernel)) (sF_a V522)
            have K537 : pN M516 o0 pn pN9 := K506.same (sA_a A521 (by decide +kernel)) (sF_a V522)
            have Z9538 : pO M516 o0 pb pn pa s507 := f490.same (fun k _ _ => V522 k) (V522 23) (A521 13 (by decide) rfl)
            clear z496 z497 z498 z499 z500 z501 z502
            refine mv_aload_n d_TrustDeskModel_readClause_165 rfl rfl ?_
            refine mv_bipush (v := 59) d_TrustDeskModel_readClause_166 (by decide) ?_
            obtain ⟨_, b545, -⟩ := I517.1 _ _ t492
            have : (59 : Int32).toInt = 59 := by decide
            refine mv_callV (kc' := 0) (ks' := 0) (As := [.int 59]) (st9 := [.int 59, .ref o0]) d_TrustDeskModel_readClause_168 lV_TrustDeskModel_291 b545 rfl (tc_TrustDeskModel_wantSign_x (d := (d + 23)) (x9 := x9) (o0 := o0) (x1 := 59) t492 R519 E534.1 (E534.s yS (by decide)) (by decide) Z9538 I517.start) rfl (Nat.le_of_ble_eq_true rfl) (Nat.le_of_ble_eq_true rfl) (Nat.le_of_ble_eq_true rfl) (hst := rfl) (fun b539r M540 n541 b539 => ?_)
            obtain ⟨T542, J543, rfl, R546, f547, f548⟩ := b539
            have I544 := I517.call J543 (tm_sub (by decide)) (Or.inl rfl)
            have t549 := J543.up t492
            have := f547.2.1
            have f550 := Im.i f547.w.2
            have f551 := Im.i f547.w2
            have z552 := (rv_c I517 J543 (I517.up h_o0) (k := 22) rfl).trans z527
            have z553 := (rv_c I517 J543 (I517.up h_o0) (k := 24) rfl).trans z528
            have z554 := (ra_call I517 J543 (I517.up h_o0) (k := 5) rfl rfl rfl 44).trans z529
            have z555 := (ra_call I517 J543 (I517.up h_o0) (k := 6) rfl rfl rfl 44).trans z530
            have z556 := (ra_call I517 J543 (I517.up h_o0) (k := 7) rfl rfl rfl ((880 + ra M0 o0 6 44).toNat)).trans z531
            have z557 := (ra_call I517 J543 (I517.up h_o0) (k := 10) rfl rfl rfl ((880 + ra M0 o0 6 44).toNat)).trans z532
            have z558 := (ra_call I517 J543 (I517.up h_o0) (k := 8) rfl rfl rfl ((880 + ra M0 o0 6 44).toNat)).trans z533
            have E559 : rE M0 M540 o0 0 4 := E534.trans f547 (by decide) (yR.2 5 _ _ rfl 44).1 (by decide) (by decide)
            have K560 : rK M0 M540 o0 ((880 + ra M0 o0 6 44).toNat) := K535.same (sA_c I517 J543 (I517.up h_o0) (by decide +kernel))
            have K561 : nN M540 o0 := K536.same (sA_c I517 J543 (I517.up h_o0) (by decide +kernel)) (sF_c I517 J543 (I517.up h_o0) (by decide +kernel))
            have K562 : pN M540 o0 pn pN9 := K537.same (sA_c I517 J543 (I517.up h_o0) (by decide +kernel)) (sF_c I517 J543 (I517.up h_o0) (by decide +kernel))
            rw [show (59 : Int32).toInt = 59 from by decide] at f548
            obtain ⟨s563, e564⟩ : ∃ s9 : p_S, p_sg pb pn 59 s507 = s9 := ⟨_, rfl⟩
            rw [e564] at f548
            have := f548.w
            clear z527 z528 z529 z530 z531 z532 z533
            have q565 := J543.keep t492 (by decide) (K518 _ 13 6 _ q511)
            have t566 := J543.up t512
            have q567 := J543.keep t492 (by decide) (K518 _ 13 8 _ q513)
            have t568 := J543.up t514
            have q569 := J543.keep t492 (by decide) (K518 _ 13 9 _ q515)
            have t570 := J543.up t493
            refine mv_aload_n d_TrustDeskModel_readClause_171 rfl rfl ?_
            obtain ⟨a572, q571, t_a572⟩ := tm_atR I544 t549 (k := 12) rfl
            refine tr_getK q571 d_TrustDeskModel_readClause_172 f_TrustDeskModel_41_13 ?_
            refine mv_iload_n d_TrustDeskModel_readClause_175 rfl rfl ?_
            refine mv_aload_n d_TrustDeskModel_readClause_176 rfl rfl ?_
            obtain ⟨a574, q573, t_a574⟩ := tm_atR I544 t549 (k := 5) rfl
            refine tr_getK q573 d_TrustDeskModel_readClause_177 f_TrustDeskModel_20_13 ?_
            refine mv_bipush (v := 44) d_TrustDeskModel_readClause_180 (by decide) ?_
            refine tr_ialdR (o := o0) (k := 5) I544 q573 t_a574 (by decide) d_TrustDeskModel_readClause_182 (by unfold vp_in; decide) (fun v575 e576 => ?_)
            have := R546.a (k := 5) rfl (44 : Int32).toNatClampNeg
            have : v575.toInt = ra M540 o0 5 44 := e576
            have : v575.toInt = _ := Eq.trans e576 z554
            refine tr_iastR (k := 12) I544 R546 (I544.up h_o0) q571 t_a572 (by decide) (by decide) (fun lo hi h => by cases h; have := R546.1 15 _ _ rfl; have := R546.1 16 _ _ rfl; have := R546.1 19 _ _ rfl; exact ⟨by show (0 : Int) ≤ v575.toInt; omega, by show v575.toInt ≤ (400 : Int); omega⟩) (Or.inl (by decide)) d_TrustDeskModel_readClause_183 (vp_in_iff.mpr (by have := R546.1 15 _ _ rfl; have := R546.1 16 _ _ rfl; have := R546.1 19 _ _ rfl; omega)) (fun M577 I578 K579 R580 E581 A582 V583 => ?_)
            have z584 := (V583 15)
            have z585 := (V583 16)
            have z586 := (V583 17)
            have z587 := (V583 19)
            have z588 := (V583 22).trans z552
            have z589 := (V583 24).trans z553
            have z590 := (A582 5 (by decide) rfl 44).trans z554
            have z591 := (A582 6 (by decide) rfl 44).trans z555
            have z592 := (A582 7 (by decide) rfl ((880 + ra M0 o0 6 44).toNat)).trans z556
            have z593 := (A582 10 (by decide) rfl ((880 + ra M0 o0 6 44).toNat)).trans z557
            have z594 := (A582 8 (by decide) rfl ((880 + ra M0 o0 6 44).toNat)).trans z558
            have E595 : rE M0 M577 o0 0 4 := E559.same (fun k _ _ => V583 k) (fun k h1 h2 => A582 k (by omega) (by rcases (show k = 4 ∨ k = 5 by omega) with rfl | rfl <;> rfl))
            have h596 : (880 + ra M0 o0 6 44).toNat = v387.toNatClampNeg := by have := mz_nat9 (i := v387) (by have := R546.1 15 _ _ rfl; have := R546.1 16 _ _ rfl; have := R546.1 19 _ _ rfl; omega); have := R546.1 15 _ _ rfl; have := R546.1 16 _ _ rfl; have := R546.1 19 _ _ rfl; omega
            have z597 : ra M577 o0 12 ((880 + ra M0 o0 6 44).toNat) = v575.toInt := (E581 _).trans (if_pos h596)
            have K598 : rK M0 M577 o0 ((880 + ra M0 o0 6 44).toNat) := K560.st A582 E581 (by have := mz_nat9 (i := v387) (by have := R546.1 15 _ _ rfl; have := R546.1 16 _ _ rfl; have := R546.1 19 _ _ rfl; omega); have := R546.1 15 _ _ rfl; have := R546.1 16 _ _ rfl; have := R546.1 19 _ _ rfl; omega)
            have K599 : nN M577 o0 := K561.same (sA_a A582 (by decide +kernel)) (sF_a V583)
            have K600 : pN M577 o0 pn pN9 := K562.same (sA_a A582 (by decide +kernel)) (sF_a V583)
            have Z9601 : pO M577 o0 pb pn pa s563 := f548.same (fun k _ _ => V583 k) (V583 23) (A582 13 (by decide) rfl)
            clear z552 z553 z554 z555 z556 z557 z558
            exact mv_vret d_TrustDeskModel_readClause_184 rfl ⟨_, I578, rfl, R580, (rW.of E595.1 (E595.s yS (by decide)) (fun w9 => by have u91 : rv M540 o0 19 = 0 := (by omega); have := f550.o u91; have := f551.o u91; have u92 : rv M480 o0 19 = 0 := (by omega); have := f494.o u92; have := f495.o u92; have := f491.o u92; have u93 : rv M418 o0 19 = 0 := (by omega); have := f432.o u93; have := f433.o u93; have := f429.o u93; have u94 : rv M381 o0 19 = 0 := (by omega); have := f397.o u94; have := f398.o u94; exact rG.step yG yR E595 w9 K598 (by have := yR.2 6 _ _ rfl 44; omega) (by have := R580.1 15 _ _ rfl; have := R580.1 16 _ _ rfl; have := R580.1 19 _ _ rfl; omega) (by have := R580.1 15 _ _ rfl; have := R580.1 16 _ _ rfl; have := R580.1 19 _ _ rfl; omega) (fun h9 => by exfalso; have := R580.1 15 _ _ rfl; have := R580.1 16 _ _ rfl; have := R580.1 19 _ _ rfl; omega) (fun h9 => (by have := R580.1 15 _ _ rfl; have := R580.1 16 _ _ rfl; have := R580.1 19 _ _ rfl; omega)) (by have := R580.1 15 _ _ rfl; have := R580.1 16 _ _ rfl; have := R580.1 19 _ _ rfl; omega) K599)), (rO.of E595 K598 (by have := yR.2 6 _ _ rfl 44; omega)), ⟨E595.2.1, fun w9 => by skip; have := E595.w2 w9; omega⟩, (fun w9 => by have u91 : rv M540 o0 19 = 0 := (by omega); have := f550.o u91; have := f551.o u91; have u92 : rv M480 o0 19 = 0 := (by omega); have := f494.o u92; have := f495.o u92; have := f491.o u92; have u93 : rv M418 o0 19 = 0 := (by omega); have := f432.o u93; have := f433.o u93; have := f429.o u93; have u94 : rv M381 o0 19 = 0 := (by omega); have := f397.o u94; have := f398.o u94; omega), (fun h9 _ => absurd h9 (f16.o (by have := R580.1 15 _ _ rfl; have := R580.1 16 _ _ rfl; have := R580.1 19 _ _ rfl; omega))), (by have := R580.1 15 _ _ rfl; have := R580.1 16 _ _ rfl; have := R580.1 19 _ _ rfl; omega), (absurd (pW1 (Im.o d301) (by omega)) (pW0 (Im.o d374) (by omega))), (fun w9 => by have u91 : rv M540 o0 19 = 0 := (by omega); have := f550.o u91; have := f551.o u91; have u92 : rv M480 o0 19 = 0 := (by omega); have := f494.o u92; have := f495.o u92; have := f491.o u92; have u93 : rv M418 o0 19 = 0 := (by omega); have := f432.o u93; have := f433.o u93; have := f429.o u93; have u94 : rv M381 o0 19 = 0 := (by omega); have := f397.o u94; have := f398.o u94; omega), (absurd (pW1 (Im.o d301) (by omega)) (pW0 (Im.o d374) (by omega)))⟩
          · refine mv_bipush (v := 7) d_TrustDeskModel_readClause_100 (by decide) ?_
            refine mv_goto (tgt := 107) d_TrustDeskModel_readClause_102 (by decide) ?_
            obtain ⟨_, b608, -⟩ := I351.1 _ _ t360
            have : (7 : Int32).toInt = 7 := by decide
            refine mv_callV (kc' := 0) (ks' := 0) (As := [.int 7]) (st9 := [.int 7, .ref o0]) d_TrustDeskModel_readClause_107 lV_TrustDeskModel_342 b608 rfl (tc_TrustDeskModel_begin_x (d := (d + 23)) (x9 := x9) (o0 := o0) (x1 := 7) t360 R356 E369.1 (E369.s yS (by decide)) (by have := R356.1 15 _ _ rfl; have := R356.1 16 _ _ rfl; have := R356.1 19 _ _ rfl; omega) (by have := f357.o (by omega); omega) (by have := R356.1 15 _ _ rfl; have := R356.1 16 _ _ rfl; have := R356.1 19 _ _ rfl; omega) Z9373 I351.start) rfl (Nat.le_of_ble_eq_true rfl) (Nat.le_of_ble_eq_true rfl) (Nat.le_of_ble_eq_true rfl) (hst := rfl) (fun b602r M603 n604 b602 => ?_)
            obtain ⟨T605, J606, v609, rfl, R610, f611, f612, f613, f614, f615, f616, f617⟩ := b602
            have I607 := I351.call J606 (tm_sub (by decide)) (Or.inl rfl)
            have t618 := J606.up t360
            have := f611.2.1
            have f619 := Im.i f611.w.2
            have f620 := Im.i f611.w2
            have z621 := (rv_c I351 J606 (I351.up h_o0) (k := 19) rfl).trans z364
            have z622 := (rv_c I351 J606 (I351.up h_o0) (k := 22) rfl).trans z365
            have z623 := (rv_c I351 J606 (I351.up h_o0) (k := 24) rfl).trans z366
            have z624 := (ra_call I351 J606 (I351.up h_o0) (k := 5) rfl rfl rfl 44).trans z367
            have E625 : rE M0 M603 o0 0 1 := E369.trans f611 (by decide) (yR.2 5 _ _ rfl 44).1 (by decide) (by decide)
            have h626 : (880 + ra M347 o0 6 44).toNat = (880 + ra M0 o0 6 44).toNat := by omega
            rw [h626] at f614 f615 f616
            have K627 : rK M0 M603 o0 ((880 + ra M0 o0 6 44).toNat) := K370.trans f616
            have K628 : nN M603 o0 := K371.same (sA_c I351 J606 (I351.up h_o0) (by decide +kernel)) (sF_c I351 J606 (I351.up h_o0) (by decide +kernel))
            have K629 : pN M603 o0 pn pN9 := K372.same (sA_c I351 J606 (I351.up h_o0) (by decide +kernel)) (sF_c I351 J606 (I351.up h_o0) (by decide +kernel))
            obtain ⟨s630, e631⟩ : ∃ s9 : p_S, p_nx ps = s9 := ⟨_, rfl⟩
            rw [e631] at f617
            have := f617.w
            clear z365 z366
            have q632 := J606.keep t360 (by decide) q375
            have t633 := J606.up t376
            have q634 := J606.keep t360 (by decide) q377
            refine mv_istore_n (lv' := [(3, .int v609), (2, .int v353), (1, .int v10), (0, .ref o0)]) d_TrustDeskModel_readClause_110 rfl (by decide) rfl ?_
            refine mv_iload_n d_TrustDeskModel_readClause_111 rfl rfl ?_
            have := mz_hi v10
            refine mv_if_eqZ (tgt := 123) (a := v10.toInt) d_TrustDeskModel_readClause_112 (by decide) rfl (fun b635 => ?_) (fun b635 => absurd b635 (by omega))
            refine mv_iload_n d_TrustDeskModel_readClause_123 rfl rfl ?_
            have := mz_hi v353
            refine mv_if_eqZ (tgt := 135) (a := v353.toInt) d_TrustDeskModel_readClause_124 (by decide) rfl (fun b636 => absurd b636 (by omega)) (fun b636 => ?_)
            refine mv_aload_n d_TrustDeskModel_readClause_127 rfl rfl ?_
            refine mv_iload_n d_TrustDeskModel_readClause_128 rfl rfl ?_
            obtain ⟨_, b643, -⟩ := I607.1 _ _ t618
            refine mv_callV (kc' := 0) (ks' := 0) (As := [.int v609]) (st9 := [.int v609, .ref o0]) d_TrustDeskModel_readClause_129 lV_TrustDeskModel_348 b643 rfl (tc_TrustDeskModel_readMarks_x (d := (d + 22)) (x9 := x9) (o0 := o0) (x1 := v609) t618 R610 E625.1 (E625.s yS (by decide)) (by have := R610.1 15 _ _ rfl; have := R610.1 16 _ _ rfl; have := R610.1 19 _ _ rfl; omega) f617 I607.start) rfl (Nat.le_of_ble_eq_true rfl) (Nat.le_of_ble_eq_true rfl) (Nat.le_of_ble_eq_true rfl) (hst := rfl) (fun b637r M638 n639 b637 => ?_)
            obtain ⟨T640, J641, rfl, R644, f645, f646, f647, f648⟩ := b637
            have I642 := I607.call J641 (tm_sub (by decide)) (Or.inl rfl)
            have t649 := J641.up t618
            have := f645.2.1
            have f650 := Im.i f645.w.2
            have f651 := Im.i f645.w2
            have z652 := (rv_c I607 J641 (I607.up h_o0) (k := 22) rfl).trans z622
            have z653 := (rv_c I607 J641 (I607.up h_o0) (k := 24) rfl).trans z623
            have z654 := (ra_call I607 J641 (I607.up h_o0) (k := 5) rfl rfl rfl 44).trans z624
            have z655 := (ra_call I607 J641 (I607.up h_o0) (k := 6) rfl rfl rfl 44)
            have z656 := (ra_call I607 J641 (I607.up h_o0) (k := 7) rfl rfl rfl ((880 + ra M0 o0 6 44).toNat))
            have z657 := (ra_call I607 J641 (I607.up h_o0) (k := 10) rfl rfl rfl ((880 + ra M0 o0 6 44).toNat))
            have E658 : rE M0 M638 o0 0 1 := E625.trans f645 (by decide) (yR.2 5 _ _ rfl 44).1 (by decide) (by decide)
            have h659 : v609.toNatClampNeg = (880 + ra M0 o0 6 44).toNat := by have := mz_nat9 (i := v609) (by have := R610.1 15 _ _ rfl; have := R610.1 16 _ _ rfl; have := R610.1 19 _ _ rfl; omega); have := R610.1 15 _ _ rfl; have := R610.1 16 _ _ rfl; have := R610.1 19 _ _ rfl; omega
            rw [h659] at f646 f647
            have K660 : rK M0 M638 o0 ((880 + ra M0 o0 6 44).toNat) := K627.one8 (sA_c I607 J641 (I607.up h_o0) (by decide)) f646
            have K661 : nN M638 o0 := K628.same (sA_c I607 J641 (I607.up h_o0) (by decide +kernel)) (sF_c I607 J641 (I607.up h_o0) (by decide +kernel))
            have K662 : pN M638 o0 pn pN9 := K629.same (sA_c I607 J641 (I607.up h_o0) (by decide +kernel)) (sF_c I607 J641 (I607.up h_o0) (by decide +kernel))
            obtain ⟨s663, e664⟩ : ∃ s9 : p_S, p_mar pb pn s630 = s9 := ⟨_, rfl⟩
            rw [e664] at f648
            have := f648.w
            clear z622 z623 z624
            have q665 := J641.keep t618 (by decide) q632
            have t666 := J641.up t633
            refine mv_goto (tgt := 165) d_TrustDeskModel_readClause_132 (by decide) ?_
            refine mv_aload_n d_TrustDeskModel_readClause_165 rfl rfl ?_
            refine mv_bipush (v := 59) d_TrustDeskModel_readClause_166 (by decide) ?_
            obtain ⟨_, b673, -⟩ := I642.1 _ _ t649
            have : (59 : Int32).toInt = 59 := by decide
            refine mv_callV (kc' := 0) (ks' := 0) (As := [.int 59]) (st9 := [.int 59, .ref o0]) d_TrustDeskModel_readClause_168 lV_TrustDeskModel_291 b673 rfl (tc_TrustDeskModel_wantSign_x (d := (d + 23)) (x9 := x9) (o0 := o0) (x1 := 59) t649 R644 E658.1 (E658.s yS (by decide)) (by decide) f648 I642.start) rfl (Nat.le_of_ble_eq_true rfl) (Nat.le_of_ble_eq_true rfl) (Nat.le_of_ble_eq_true rfl) (hst := rfl) (fun b667r M668 n669 b667 => ?_)
            obtain ⟨T670, J671, rfl, R674, f675, f676⟩ := b667
            have I672 := I642.call J671 (tm_sub (by decide)) (Or.inl rfl)
            have t677 := J671.up t649
            have := f675.2.1
            have f678 := Im.i f675.w.2
            have f679 := Im.i f675.w2
            have z680 := (rv_c I642 J671 (I642.up h_o0) (k := 22) rfl).trans z652
            have z681 := (rv_c I642 J671 (I642.up h_o0) (k := 24) rfl).trans z653
            have z682 := (ra_call I642 J671 (I642.up h_o0) (k := 5) rfl rfl rfl 44).trans z654
            have z683 := (ra_call I642 J671 (I642.up h_o0) (k := 6) rfl rfl rfl 44).trans z655
            have z684 := (ra_call I642 J671 (I642.up h_o0) (k := 7) rfl rfl rfl ((880 + ra M0 o0 6 44).toNat)).trans z656
            have z685 := (ra_call I642 J671 (I642.up h_o0) (k := 10) rfl rfl rfl ((880 + ra M0 o0 6 44).toNat)).trans z657
            have z686 := (ra_call I642 J671 (I642.up h_o0) (k := 8) rfl rfl rfl ((880 + ra M0 o0 6 44).toNat))
            have E687 : rE M0 M668 o0 0 2 := E658.trans f675 (by decide) (yR.2 5 _ _ rfl 44).1 (by decide) (by decide)
            have K688 : rK M0 M668 o0 ((880 + ra M0 o0 6 44).toNat) := K660.same (sA_c I642 J671 (I642.up h_o0) (by decide +kernel))
            have K689 : nN M668 o0 := K661.same (sA_c I642 J671 (I642.up h_o0) (by decide +kernel)) (sF_c I642 J671 (I642.up h_o0) (by decide +kernel))
            have K690 : pN M668 o0 pn pN9 := K662.same (sA_c I642 J671 (I642.up h_o0) (by decide +kernel)) (sF_c I642 J671 (I642.up h_o0) (by decide +kernel))
            rw [show (59 : Int32).toInt = 59 from by decide] at f676
            obtain ⟨s691, e692⟩ : ∃ s9 : p_S, p_sg pb pn 59 s663 = s9 := ⟨_, rfl⟩
            rw [e692] at f676
            have := f676.w
            clear z652 z653 z654 z655 z656 z657
            have q693 := J671.keep t649 (by decide) q665
            have t694 := J671.up t666
            refine mv_aload_n d_TrustDeskModel_readClause_171 rfl rfl ?_
            obtain ⟨a696, q695, t_a696⟩ := tm_atR I672 t677 (k := 12) rfl
            refine tr_getK q695 d_TrustDeskModel_readClause_172 f_TrustDeskModel_41_13 ?_
            refine mv_iload_n d_TrustDeskModel_readClause_175 rfl rfl ?_
            refine mv_aload_n d_TrustDeskModel_readClause_176 rfl rfl ?_
            obtain ⟨a698, q697, t_a698⟩ := tm_atR I672 t677 (k := 5) rfl
            refine tr_getK q697 d_TrustDeskModel_readClause_177 f_TrustDeskModel_20_13 ?_
            refine mv_bipush (v := 44) d_TrustDeskModel_readClause_180 (by decide) ?_
            refine tr_ialdR (o := o0) (k := 5) I672 q697 t_a698 (by decide) d_TrustDeskModel_readClause_182 (by unfold vp_in; decide) (fun v699 e700 => ?_)
            have := R674.a (k := 5) rfl (44 : Int32).toNatClampNeg
            have : v699.toInt = ra M668 o0 5 44 := e700
            have : v699.toInt = _ := Eq.trans e700 z682
            refine tr_iastR (k := 12) I672 R674 (I672.up h_o0) q695 t_a696 (by decide) (by decide) (fun lo hi h => by cases h; have := R674.1 15 _ _ rfl; have := R674.1 16 _ _ rfl; have := R674.1 19 _ _ rfl; exact ⟨by show (0 : Int) ≤ v699.toInt; omega, by show v699.toInt ≤ (400 : Int); omega⟩) (Or.inl (by decide)) d_TrustDeskModel_readClause_183 (vp_in_iff.mpr (by have := R674.1 15 _ _ rfl; have := R674.1 16 _ _ rfl; have := R674.1 19 _ _ rfl; omega)) (fun M701 I702 K703 R704 E705 A706 V707 => ?_)
            have z708 := (V707 15)
            have z709 := (V707 16)
            have z710 := (V707 17)
            have z711 := (V707 19)
            have z712 := (V707 22).trans z680
            have z713 := (V707 24).trans z681
            have z714 := (A706 5 (by decide) rfl 44).trans z682
            have z715 := (A706 6 (by decide) rfl 44).trans z683
            have z716 := (A706 7 (by decide) rfl ((880 + ra M0 o0 6 44).toNat)).trans z684
            have z717 := (A706 10 (by decide) rfl ((880 + ra M0 o0 6 44).toNat)).trans z685
            have z718 := (A706 8 (by decide) rfl ((880 + ra M0 o0 6 44).toNat)).trans z686
            have E719 : rE M0 M701 o0 0 2 := E687.same (fun k _ _ => V707 k) (fun k h1 h2 => A706 k (by omega) (by rcases (show k = 4 ∨ k = 5 by omega) with rfl | rfl <;> rfl))
            have h720 : (880 + ra M0 o0 6 44).toNat = v609.toNatClampNeg := by have := mz_nat9 (i := v609) (by have := R674.1 15 _ _ rfl; have := R674.1 16 _ _ rfl; have := R674.1 19 _ _ rfl; omega); have := R674.1 15 _ _ rfl; have := R674.1 16 _ _ rfl; have := R674.1 19 _ _ rfl; omega
            have z721 : ra M701 o0 12 ((880 + ra M0 o0 6 44).toNat) = v699.toInt := (E705 _).trans (if_pos h720)
            have K722 : rK M0 M701 o0 ((880 + ra M0 o0 6 44).toNat) := K688.st A706 E705 (by have := mz_nat9 (i := v609) (by have := R674.1 15 _ _ rfl; have := R674.1 16 _ _ rfl; have := R674.1 19 _ _ rfl; omega); have := R674.1 15 _ _ rfl; have := R674.1 16 _ _ rfl; have := R674.1 19 _ _ rfl; omega)
            have K723 : nN M701 o0 := K689.same (sA_a A706 (by decide +kernel)) (sF_a V707)
            have K724 : pN M701 o0 pn pN9 := K690.same (sA_a A706 (by decide +kernel)) (sF_a V707)
            have Z9725 : pO M701 o0 pb pn pa s691 := f676.same (fun k _ _ => V707 k) (V707 23) (A706 13 (by decide) rfl)
            clear z680 z681 z682 z683 z684 z685 z686
            exact mv_vret d_TrustDeskModel_readClause_184 rfl ⟨_, I702, rfl, R704, (rW.of E719.1 (E719.s yS (by decide)) (fun w9 => by have u91 : rv M668 o0 19 = 0 := (by omega); have := f678.o u91; have := f679.o u91; have u92 : rv M638 o0 19 = 0 := (by omega); have := f650.o u92; have := f651.o u92; have u93 : rv M603 o0 19 = 0 := (by omega); have := f619.o u93; have := f620.o u93; exact rG.step yG yR E719 w9 K722 (by have := yR.2 6 _ _ rfl 44; omega) (by have := R704.1 15 _ _ rfl; have := R704.1 16 _ _ rfl; have := R704.1 19 _ _ rfl; omega) (by have := R704.1 15 _ _ rfl; have := R704.1 16 _ _ rfl; have := R704.1 19 _ _ rfl; omega) (fun h9 => by exfalso; have := R704.1 15 _ _ rfl; have := R704.1 16 _ _ rfl; have := R704.1 19 _ _ rfl; omega) (fun h9 => (by have := R704.1 15 _ _ rfl; have := R704.1 16 _ _ rfl; have := R704.1 19 _ _ rfl; omega)) (by have := R704.1 15 _ _ rfl; have := R704.1 16 _ _ rfl; have := R704.1 19 _ _ rfl; omega) K723)), (rO.of E719 K722 (by have := yR.2 6 _ _ rfl 44; omega)), ⟨E719.2.1, fun w9 => by skip; have := E719.w2 w9; omega⟩, (fun w9 => by have u91 : rv M668 o0 19 = 0 := (by omega); have := f678.o u91; have := f679.o u91; have u92 : rv M638 o0 19 = 0 := (by omega); have := f650.o u92; have := f651.o u92; have u93 : rv M603 o0 19 = 0 := (by omega); have := f619.o u93; have := f620.o u93; omega), (fun h9 _ => absurd h9 (f16.o (by have := R704.1 15 _ _ rfl; have := R704.1 16 _ _ rfl; have := R704.1 19 _ _ rfl; omega))), (by have := R704.1 15 _ _ rfl; have := R704.1 16 _ _ rfl; have := R704.1 19 _ _ rfl; omega), (by rw [show (p_cl pb pn pa (pc9, pN9, ps)).2 = s691 from (congrArg Prod.snd (p_cl_m (yO.w.symm.trans yw) (pW1 (Im.o d374) (by omega)) (Im.o h339))).trans (by show _ = _; (try dsimp only); (try (first | (simp only [e631, e664, e692]; done) | (simp only [e631, e664, e692]; first | exact p_sg_Z _ (by omega) | omega))))]; exact Z9725), (fun w9 => by have u91 : rv M668 o0 19 = 0 := (by omega); have := f678.o u91; have := f679.o u91; have u92 : rv M638 o0 19 = 0 := (by omega); have := f650.o u92; have := f651.o u92; have u93 : rv M603 o0 19 = 0 := (by omega); have := f619.o u93; have := f620.o u93; omega), (fun w9 => by have e9 : (p_cl pb pn pa (pc9, pN9, ps)).1 = pN9 := (congrArg Prod.fst (p_cl_m (yO.w.symm.trans yw) (pW1 (Im.o d374) (by omega)) (Im.o h339))).trans (by (try rw [← e631]); rfl); rw [e9]; exact K724)⟩
    · refine mv_aload_n d_TrustDeskModel_readClause_22 rfl rfl ?_
      refine mv_ldcSw (id := 44) (tx := "trust") d_TrustDeskModel_readClause_23 (List.mem_of_getElem? (i := 34) rfl) ?_
      obtain ⟨_, b732, -⟩ := I278.1 _ _ t287
      refine mv_callV (kc' := 0) (ks' := 0) (As := [.ref 44]) (st9 := [.ref 44, .ref o0]) d_TrustDeskModel_readClause_26 lV_TrustDeskModel_244 b732 rfl (tc_TrustDeskModel_isWord_s1_44_x (d := (d + 21)) (x9 := x9) (o0 := o0) t287 R283 I278.start) rfl (Nat.le_of_ble_eq_true rfl) (Nat.le_of_ble_eq_true rfl) (Nat.le_of_ble_eq_true rfl) (hst := rfl) (fun b726r M727 n728 b726 => ?_)
      obtain ⟨T729, J730, v733, rfl, b734, b735, R736, f737, f738, f739⟩ := b726
      have I731 := I278.call J730 (tm_sub (by decide)) (Or.inl rfl)
      have t740 := J730.up t287
      replace f737 := Im.i f737
      replace f738 := Im.i f738
      replace f739 := Im.i f739
      have z741 := (rv_c I278 J730 (I278.up h_o0) (k := 15) rfl).trans z288
      have z742 := (rv_c I278 J730 (I278.up h_o0) (k := 16) rfl).trans z289
      have z743 := (rv_c I278 J730 (I278.up h_o0) (k := 17) rfl).trans z290
      have z744 := (rv_c I278 J730 (I278.up h_o0) (k := 19) rfl).trans z291
      have z745 := (rv_c I278 J730 (I278.up h_o0) (k := 22) rfl).trans z292
      have z746 := (rv_c I278 J730 (I278.up h_o0) (k := 24) rfl).trans z293
      have z747 := (ra_call I278 J730 (I278.up h_o0) (k := 5) rfl rfl rfl 44).trans z294
      have z748 := (ra_call I278 J730 (I278.up h_o0) (k := 6) rfl rfl rfl 44).trans z295
      have E749 : rE M0 M727 o0 0 0 := E296.same (rE_hv I278 J730 (I278.up h_o0) 15 19 (by decide)) (rE_ha I278 J730 (I278.up h_o0) (by decide))
      have K750 : rK M0 M727 o0 ((880 + ra M0 o0 6 44).toNat) := K297.same (sA_c I278 J730 (I278.up h_o0) (by decide +kernel))
      have K751 : nN M727 o0 := K298.same (sA_c I278 J730 (I278.up h_o0) (by decide +kernel)) (sF_c I278 J730 (I278.up h_o0) (by decide +kernel))
      have K752 : pN M727 o0 pn pN9 := K299.same (sA_c I278 J730 (I278.up h_o0) (by decide +kernel)) (sF_c I278 J730 (I278.up h_o0) (by decide +kernel))
      have Z9753 : pO M727 o0 pb pn pa ps := Z9300.same (rE_hv I278 J730 (I278.up h_o0) 14 20 (by decide)) (rv_c I278 J730 (I278.up h_o0) (k := 23) rfl) (ra_call I278 J730 (I278.up h_o0) (k := 13) rfl rfl rfl)
      have d754 := Im.i (pO.w_25 Z9300 (by have := R283.1 15 _ _ rfl; have := R283.1 16 _ _ rfl; have := R283.1 19 _ _ rfl; omega) (Im.o f738) (Im.o f739) (by have := R283.1 15 _ _ rfl; have := R283.1 16 _ _ rfl; have := R283.1 19 _ _ rfl; omega))
      clear z292 z293 z294 z295
      have := mz_hi v733
      refine mv_if_neZ (tgt := 40) (a := v733.toInt) d_TrustDeskModel_readClause_29 (by decide) rfl (fun b755 => ?_) (fun b755 => ?_)
      · refine mv_aload_n d_TrustDeskModel_readClause_40 rfl rfl ?_
        obtain ⟨a757, q756, t_a757⟩ := tm_atR I731 t740 (k := 6) rfl
        refine tr_getK q756 d_TrustDeskModel_readClause_41 f_TrustDeskModel_23_13 ?_
        refine mv_bipush (v := 44) d_TrustDeskModel_readClause_44 (by decide) ?_
        refine tr_ialdR (o := o0) (k := 6) I731 q756 t_a757 (by decide) d_TrustDeskModel_readClause_46 (by unfold vp_in; decide) (fun v758 e759 => ?_)
        have := R736.a (k := 6) rfl (44 : Int32).toNatClampNeg
        have : v758.toInt = ra M727 o0 6 44 := e759
        have : v758.toInt = _ := Eq.trans e759 z748
        refine mv_bipush (v := 12) d_TrustDeskModel_readClause_47 (by decide) ?_
        have := mz_hi v758
        refine mv_icmp_eqZ (tgt := 65) (a := v758.toInt) (b := 12) d_TrustDeskModel_readClause_49 (by decide) rfl (by decide) (fun b760 => ?_) (fun b760 => ?_)
        · have h761 : Im (12 ≤ pc9) := Im.i (by omega)
          refine mv_aload_n d_TrustDeskModel_readClause_65 rfl rfl ?_
          refine mv_iconst (v := 4) d_TrustDeskModel_readClause_66 (by decide) ?_
          obtain ⟨_, b768, -⟩ := I731.1 _ _ t740
          have : (4 : Int32).toInt = 4 := by decide
          refine mv_callV (kc' := 0) (ks' := 0) (As := [.int 4]) (st9 := [.int 4, .ref o0]) d_TrustDeskModel_readClause_67 lV_TrustDeskModel_240 b768 rfl (tc_TrustDeskModel_fails_x (d := (d + 25)) (x9 := x9) (o0 := o0) (x1 := 4) t740 R736 (by decide) Z9753 I731.start) rfl (Nat.le_of_ble_eq_true rfl) (Nat.le_of_ble_eq_true rfl) (Nat.le_of_ble_eq_true rfl) (hst := rfl) (fun b762r M763 n764 b762 => ?_)
          obtain ⟨T765, J766, rfl, R769, f770, f771⟩ := b762
          have I767 := I731.call J766 (tm_sub (by decide)) (Or.inl rfl)
          have t772 := J766.up t740
          have z773 := (rv_c I731 J766 (I731.up h_o0) (k := 15) rfl).trans z741
          have z774 := (rv_c I731 J766 (I731.up h_o0) (k := 16) rfl).trans z742
          have z775 := (rv_c I731 J766 (I731.up h_o0) (k := 17) rfl).trans z743
          have z776 := (rv_c I731 J766 (I731.up h_o0) (k := 22) rfl).trans z745
          have z777 := (rv_c I731 J766 (I731.up h_o0) (k := 24) rfl).trans z746
          have z778 := (ra_call I731 J766 (I731.up h_o0) (k := 5) rfl rfl rfl 44).trans z747
          have z779 := (ra_call I731 J766 (I731.up h_o0) (k := 6) rfl rfl rfl 44).trans z748
          have E780 : rE M0 M763 o0 0 0 := E749.fails (rE_hv I731 J766 (I731.up h_o0) 15 18 (by decide)) (rE_ha I731 J766 (I731.up h_o0) (by decide)) f770 0 0
          have K781 : rK M0 M763 o0 ((880 + ra M0 o0 6 44).toNat) := K750.same (sA_c I731 J766 (I731.up h_o0) (by decide +kernel))
          have K782 : nN M763 o0 := K751.same (sA_c I731 J766 (I731.up h_o0) (by decide +kernel)) (sF_c I731 J766 (I731.up h_o0) (by decide +kernel))
          have K783 : pN M763 o0 pn pN9 := K752.same (sA_c I731 J766 (I731.up h_o0) (by decide +kernel)) (sF_c I731 J766 (I731.up h_o0) (by decide +kernel))
          rw [show (4 : Int32).toInt = 4 from by decide] at f771
          obtain ⟨s784, e785⟩ : ∃ s9 : p_S, p_fl pb pn 4 ps = s9 := ⟨_, rfl⟩
          rw [e785] at f771
          have := f771.w
          clear z741 z742 z743 z745 z746 z747 z748
          have q786 := J766.keep t740 (by decide) q756
          have t787 := J766.up t_a757
          refine mv_aload_n d_TrustDeskModel_readClause_70 rfl rfl ?_
          obtain ⟨_, b788, -⟩ := I767.1 _ _ t772
          refine mv_callV (kc1 := 0) (ks1 := 0) (kc' := 0) (ks' := 0) (As := []) (st9 := [.ref o0]) d_TrustDeskModel_readClause_71 lV_TrustDeskModel_230 b788 rfl (mj_enter (by decide) (Nat.le_of_ble_eq_true rfl) ?_) rfl (Nat.le_of_ble_eq_true rfl) (Nat.le_of_ble_eq_true rfl) (Nat.le_of_ble_eq_true rfl) (hst := rfl) (fun _ _ _ h => h)
          refine mv_aload_n d_TrustDeskModel_isWell_0 rfl rfl ?_
          obtain ⟨v790, q789⟩ := tm_atI I767 t772 (k := 19) rfl
          refine tr_getK q789 d_TrustDeskModel_isWell_1 f_TrustDeskModel_224_13 ?_
          have := R769.f (k := 19) q789 rfl
          have := tm_rv q789
          refine mv_if_neZ (tgt := 11) (a := v790.toInt) d_TrustDeskModel_isWell_4 (by decide) rfl (fun b791 => ?_) (fun b791 => ?_)
          · refine mv_iconst (v := 0) d_TrustDeskModel_isWell_11 (by decide) ?_
            refine mv_iret d_TrustDeskModel_isWell_12 rfl (by decide) ?_
            refine mv_if_ne_f (tgt := 78) d_TrustDeskModel_readClause_74 (by decide) (by decide) ?_
            exact mv_vret d_TrustDeskModel_readClause_77 rfl ⟨_, I767, rfl, R769, (rW.of E780.1 (fun h9 => by exfalso; skip; have := R769.1 15 _ _ rfl; have := R769.1 16 _ _ rfl; have := R769.1 19 _ _ rfl; omega) (fun h9 => by exfalso; skip; have := R769.1 15 _ _ rfl; have := R769.1 16 _ _ rfl; have := R769.1 19 _ _ rfl; omega)), (rO.of E780 K781 (by have := yR.2 6 _ _ rfl 44; omega)), ⟨E780.2.1, fun w9 => by skip; have := E780.w2 w9; omega⟩, (fun w9 => by skip; omega), (fun _ h9 => by exfalso; skip; have := R769.1 15 _ _ rfl; have := R769.1 16 _ _ rfl; have := R769.1 19 _ _ rfl; omega), (by have := R769.1 15 _ _ rfl; have := R769.1 16 _ _ rfl; have := R769.1 19 _ _ rfl; omega), (by rw [show (p_cl pb pn pa (pc9, pN9, ps)).2 = s784 from (congrArg Prod.snd (p_cl_4 (yO.w.symm.trans yw) (Or.inr (Or.inr (pW1 (Im.o d754) (by omega)))) (Or.inl (Im.o h761)))).trans (by show _ = _; (try dsimp only); (try (first | (simp only [e785]; done) | (simp only [e785]; first | exact p_sg_Z _ (by omega) | omega))))]; exact f771), (fun w9 => by skip; omega), (fun h9 => by exfalso; skip; have := R769.1 15 _ _ rfl; have := R769.1 16 _ _ rfl; have := R769.1 19 _ _ rfl; omega)⟩
          · exfalso
            have := R769.1 15 _ _ rfl; have := R769.1 16 _ _ rfl; have := R769.1 19 _ _ rfl; omega
        · have h792 : Im (¬ 12 ≤ pc9) := Im.i (by omega)
          refine mv_iload_n d_TrustDeskModel_readClause_52 rfl rfl ?_
          have := mz_hi v10
          refine mv_if_eqZ (tgt := 70) (a := v10.toInt) d_TrustDeskModel_readClause_53 (by decide) rfl (fun b793 => ?_) (fun b793 => absurd b793 (by omega))
          refine mv_aload_n d_TrustDeskModel_readClause_70 rfl rfl ?_
          obtain ⟨_, b795, -⟩ := I731.1 _ _ t740
          refine mv_callV (kc1 := 0) (ks1 := 0) (kc' := 0) (ks' := 0) (As := []) (st9 := [.ref o0]) d_TrustDeskModel_readClause_71 lV_TrustDeskModel_230 b795 rfl (mj_enter (by decide) (Nat.le_of_ble_eq_true rfl) ?_) rfl (Nat.le_of_ble_eq_true rfl) (Nat.le_of_ble_eq_true rfl) (Nat.le_of_ble_eq_true rfl) (hst := rfl) (fun _ _ _ h => h)
          refine mv_aload_n d_TrustDeskModel_isWell_0 rfl rfl ?_
          obtain ⟨v797, q796⟩ := tm_atI I731 t740 (k := 19) rfl
          refine tr_getK q796 d_TrustDeskModel_isWell_1 f_TrustDeskModel_224_13 ?_
          have := R736.f (k := 19) q796 rfl
          have := (tm_rv q796).symm.trans z744
          have := tm_rv q796
          have := mz_hi v797
          refine mv_if_neZ (tgt := 11) (a := v797.toInt) d_TrustDeskModel_isWell_4 (by decide) rfl (fun b798 => ?_) (fun b798 => ?_)
          · refine mv_iconst (v := 0) d_TrustDeskModel_isWell_11 (by decide) ?_
            refine mv_iret d_TrustDeskModel_isWell_12 rfl (by decide) ?_
            refine mv_if_ne_f (tgt := 78) d_TrustDeskModel_readClause_74 (by decide) (by decide) ?_
            exact mv_vret d_TrustDeskModel_readClause_77 rfl ⟨_, I731, rfl, R736, (rW.of E749.1 (E749.s yS (by decide)) (fun w9 => by skip; exact rG.step yG yR E749 w9 K750 (by have := yR.2 6 _ _ rfl 44; omega) (by have := R736.1 15 _ _ rfl; have := R736.1 16 _ _ rfl; have := R736.1 19 _ _ rfl; omega) (by have := R736.1 15 _ _ rfl; have := R736.1 16 _ _ rfl; have := R736.1 19 _ _ rfl; omega) (fun h9 => by exfalso; have := R736.1 15 _ _ rfl; have := R736.1 16 _ _ rfl; have := R736.1 19 _ _ rfl; omega) (fun h9 => (by have := R736.1 15 _ _ rfl; have := R736.1 16 _ _ rfl; have := R736.1 19 _ _ rfl; omega)) (by have := R736.1 15 _ _ rfl; have := R736.1 16 _ _ rfl; have := R736.1 19 _ _ rfl; omega) K751)), (rO.of E749 K750 (by have := yR.2 6 _ _ rfl 44; omega)), ⟨E749.2.1, fun w9 => by skip; have := E749.w2 w9; omega⟩, (fun w9 => by skip; omega), (fun _ h9 => absurd h9 (by have := R736.1 15 _ _ rfl; have := R736.1 16 _ _ rfl; have := R736.1 19 _ _ rfl; omega)), (by have := R736.1 15 _ _ rfl; have := R736.1 16 _ _ rfl; have := R736.1 19 _ _ rfl; omega), (by rw [show (p_cl pb pn pa (pc9, pN9, ps)).2 = ps from (congrArg Prod.snd (p_cl_nz (by omega))).trans (by show _ = _; (try dsimp only); (try (first | (simp only [eq_self]; done) | (simp only [eq_self]; first | exact p_sg_Z _ (by omega) | omega))))]; exact Z9753), (fun w9 => by skip; omega), (fun h9 => by exfalso; skip; have := R736.1 15 _ _ rfl; have := R736.1 16 _ _ rfl; have := R736.1 19 _ _ rfl; omega)⟩
          · refine mv_iconst (v := 1) d_TrustDeskModel_isWell_7 (by decide) ?_
            refine mv_goto (tgt := 12) d_TrustDeskModel_isWell_8 (by decide) ?_
            refine mv_iret d_TrustDeskModel_isWell_12 rfl (by decide) ?_
            refine mv_if_ne_t (tgt := 78) d_TrustDeskModel_readClause_74 (by decide) (by decide) ?_
            refine mv_aload_n d_TrustDeskModel_readClause_78 rfl rfl ?_
            refine mv_ldcSw (id := 43) (tx := "mark") d_TrustDeskModel_readClause_79 (List.mem_of_getElem? (i := 33) rfl) ?_
            obtain ⟨_, b805, -⟩ := I731.1 _ _ t740
            refine mv_callV (kc' := 0) (ks' := 0) (As := [.ref 43]) (st9 := [.ref 43, .ref o0]) d_TrustDeskModel_readClause_82 lV_TrustDeskModel_244 b805 rfl (tc_TrustDeskModel_isWord_s1_43_x (d := (d + 21)) (x9 := x9) (o0 := o0) t740 R736 I731.start) rfl (Nat.le_of_ble_eq_true rfl) (Nat.le_of_ble_eq_true rfl) (Nat.le_of_ble_eq_true rfl) (hst := rfl) (fun b799r M800 n801 b799 => ?_)
            obtain ⟨T802, J803, v806, rfl, b807, b808, R809, f810, f811, f812⟩ := b799
            have I804 := I731.call J803 (tm_sub (by decide)) (Or.inl rfl)
            have t813 := J803.up t740
            replace f810 := Im.i f810
            replace f811 := Im.i f811
            replace f812 := Im.i f812
            have z814 := (rv_c I731 J803 (I731.up h_o0) (k := 15) rfl).trans z741
            have z815 := (rv_c I731 J803 (I731.up h_o0) (k := 16) rfl).trans z742
            have z816 := (rv_c I731 J803 (I731.up h_o0) (k := 17) rfl).trans z743
            have z817 := (rv_c I731 J803 (I731.up h_o0) (k := 19) rfl).trans z744
            have z818 := (rv_c I731 J803 (I731.up h_o0) (k := 22) rfl).trans z745
            have z819 := (rv_c I731 J803 (I731.up h_o0) (k := 24) rfl).trans z746
            have z820 := (ra_call I731 J803 (I731.up h_o0) (k := 5) rfl rfl rfl 44).trans z747
            have z821 := (ra_call I731 J803 (I731.up h_o0) (k := 6) rfl rfl rfl 44).trans z748
            have E822 : rE M0 M800 o0 0 0 := E749.same (rE_hv I731 J803 (I731.up h_o0) 15 19 (by decide)) (rE_ha I731 J803 (I731.up h_o0) (by decide))
            have K823 : rK M0 M800 o0 ((880 + ra M0 o0 6 44).toNat) := K750.same (sA_c I731 J803 (I731.up h_o0) (by decide +kernel))
            have K824 : nN M800 o0 := K751.same (sA_c I731 J803 (I731.up h_o0) (by decide +kernel)) (sF_c I731 J803 (I731.up h_o0) (by decide +kernel))
            have K825 : pN M800 o0 pn pN9 := K752.same (sA_c I731 J803 (I731.up h_o0) (by decide +kernel)) (sF_c I731 J803 (I731.up h_o0) (by decide +kernel))
            have Z9826 : pO M800 o0 pb pn pa ps := Z9753.same (rE_hv I731 J803 (I731.up h_o0) 14 20 (by decide)) (rv_c I731 J803 (I731.up h_o0) (k := 23) rfl) (ra_call I731 J803 (I731.up h_o0) (k := 13) rfl rfl rfl)
            have d827 := Im.i (pO.w_24 Z9753 (by have := R736.1 15 _ _ rfl; have := R736.1 16 _ _ rfl; have := R736.1 19 _ _ rfl; omega) (Im.o f811) (Im.o f812) (by have := R736.1 15 _ _ rfl; have := R736.1 16 _ _ rfl; have := R736.1 19 _ _ rfl; omega))
            clear z745 z746 z747 z748
            have q828 := J803.keep t740 (by decide) q756
            have t829 := J803.up t_a757
            have q830 := J803.keep t740 (by decide) q796
            refine mv_istore_n (lv' := [(2, .int v806), (1, .int v10), (0, .ref o0)]) d_TrustDeskModel_readClause_85 rfl (by decide) rfl ?_
            refine mv_aload_n d_TrustDeskModel_readClause_86 rfl rfl ?_
            refine mv_iload_n d_TrustDeskModel_readClause_87 rfl rfl ?_
            have := mz_hi v10
            refine mv_if_eqZ (tgt := 96) (a := v10.toInt) d_TrustDeskModel_readClause_88 (by decide) rfl (fun b831 => ?_) (fun b831 => absurd b831 (by omega))
            refine mv_iload_n d_TrustDeskModel_readClause_96 rfl rfl ?_
            have := mz_hi v806
            refine mv_if_eqZ (tgt := 105) (a := v806.toInt) d_TrustDeskModel_readClause_97 (by decide) rfl (fun b832 => ?_) (fun b832 => ?_)
            · refine mv_bipush (v := 9) d_TrustDeskModel_readClause_105 (by decide) ?_
              obtain ⟨_, b839, -⟩ := I804.1 _ _ t813
              have : (9 : Int32).toInt = 9 := by decide
              refine mv_callV (kc' := 0) (ks' := 0) (As := [.int 9]) (st9 := [.int 9, .ref o0]) d_TrustDeskModel_readClause_107 lV_TrustDeskModel_342 b839 rfl (tc_TrustDeskModel_begin_x (d := (d + 23)) (x9 := x9) (o0 := o0) (x1 := 9) t813 R809 E822.1 (E822.s yS (by decide)) (by have := R809.1 15 _ _ rfl; have := R809.1 16 _ _ rfl; have := R809.1 19 _ _ rfl; omega) (by have := f737.o (by omega); omega) (by have := R809.1 15 _ _ rfl; have := R809.1 16 _ _ rfl; have := R809.1 19 _ _ rfl; omega) Z9826 I804.start) rfl (Nat.le_of_ble_eq_true rfl) (Nat.le_of_ble_eq_true rfl) (Nat.le_of_ble_eq_true rfl) (hst := rfl) (fun b833r M834 n835 b833 => ?_)
              obtain ⟨T836, J837, v840, rfl, R841, f842, f843, f844, f845, f846, f847, f848⟩ := b833
              have I838 := I804.call J837 (tm_sub (by decide)) (Or.inl rfl)
              have t849 := J837.up t813
              have := f842.2.1
              have f850 := Im.i f842.w.2
              have f851 := Im.i f842.w2
              have z852 := (rv_c I804 J837 (I804.up h_o0) (k := 19) rfl).trans z817
              have z853 := (rv_c I804 J837 (I804.up h_o0) (k := 22) rfl).trans z818
              have z854 := (rv_c I804 J837 (I804.up h_o0) (k := 24) rfl).trans z819
              have z855 := (ra_call I804 J837 (I804.up h_o0) (k := 5) rfl rfl rfl 44).trans z820
              have E856 : rE M0 M834 o0 0 1 := E822.trans f842 (by decide) (yR.2 5 _ _ rfl 44).1 (by decide) (by decide)
              have h857 : (880 + ra M800 o0 6 44).toNat = (880 + ra M0 o0 6 44).toNat := by omega
              rw [h857] at f845 f846 f847
              have K858 : rK M0 M834 o0 ((880 + ra M0 o0 6 44).toNat) := K823.trans f847
              have K859 : nN M834 o0 := K824.same (sA_c I804 J837 (I804.up h_o0) (by decide +kernel)) (sF_c I804 J837 (I804.up h_o0) (by decide +kernel))
              have K860 : pN M834 o0 pn pN9 := K825.same (sA_c I804 J837 (I804.up h_o0) (by decide +kernel)) (sF_c I804 J837 (I804.up h_o0) (by decide +kernel))
              obtain ⟨s861, e862⟩ : ∃ s9 : p_S, p_nx ps = s9 := ⟨_, rfl⟩
              rw [e862] at f848
              have := f848.w
              clear z818 z819
              have q863 := J837.keep t813 (by decide) q828
              have t864 := J837.up t829
              have q865 := J837.keep t813 (by decide) q830
              refine mv_istore_n (lv' := [(3, .int v840), (2, .int v806), (1, .int v10), (0, .ref o0)]) d_TrustDeskModel_readClause_110 rfl (by decide) rfl ?_
              refine mv_iload_n d_TrustDeskModel_readClause_111 rfl rfl ?_
              have := mz_hi v10
              refine mv_if_eqZ (tgt := 123) (a := v10.toInt) d_TrustDeskModel_readClause_112 (by decide) rfl (fun b866 => ?_) (fun b866 => absurd b866 (by omega))
              refine mv_iload_n d_TrustDeskModel_readClause_123 rfl rfl ?_
              have := mz_hi v806
              refine mv_if_eqZ (tgt := 135) (a := v806.toInt) d_TrustDeskModel_readClause_124 (by decide) rfl (fun b867 => ?_) (fun b867 => absurd b867 (by omega))
              refine mv_aload_n d_TrustDeskModel_readClause_135 rfl rfl ?_
              obtain ⟨a869, q868, t_a869⟩ := tm_atR I838 t849 (k := 8) rfl
              refine tr_getK q868 d_TrustDeskModel_readClause_136 f_TrustDeskModel_29_13 ?_
              refine mv_iload_n d_TrustDeskModel_readClause_139 rfl rfl ?_
              refine mv_aload_n d_TrustDeskModel_readClause_140 rfl rfl ?_
              refine mv_iconst (v := 1) d_TrustDeskModel_readClause_141 (by decide) ?_
              refine mv_bipush (v := 7) d_TrustDeskModel_readClause_142 (by decide) ?_
              obtain ⟨_, b876, -⟩ := I838.1 _ _ t849
              have : (1 : Int32).toInt = 1 := by decide
              have : (7 : Int32).toInt = 7 := by decide
              refine mv_callV (kc' := 0) (ks' := 0) (As := [.int 1, .int 7]) (st9 := [.int 7, .int 1, .ref o0, .int v840, .ref a869]) d_TrustDeskModel_readClause_144 lV_TrustDeskModel_317 b876 rfl (tc_TrustDeskModel_number_x (d := (d + 23)) (x9 := x9) (o0 := o0) (x1 := 1) (x2 := 7) t849 R841 E856.1 (E856.s yS (by decide)) f848 I838.start) rfl (Nat.le_of_ble_eq_true rfl) (Nat.le_of_ble_eq_true rfl) (Nat.le_of_ble_eq_true rfl) (hst := rfl) (fun b870r M871 n872 b870 => ?_)
              obtain ⟨T873, J874, v877, rfl, R878, f879, f880, f881, f882⟩ := b870
              have I875 := I838.call J874 (tm_sub (by decide)) (Or.inl rfl)
              have t883 := J874.up t849
              have t884 := J874.up t_a869
              have := f879.2.1
              have f885 := Im.i f879.w.2
              have f886 := Im.i f879.w2
              replace f882 := Im.i f882
              have z887 := (rv_c I838 J874 (I838.up h_o0) (k := 22) rfl).trans z853
              have z888 := (rv_c I838 J874 (I838.up h_o0) (k := 24) rfl).trans z854
              have z889 := (ra_call I838 J874 (I838.up h_o0) (k := 5) rfl rfl rfl 44).trans z855
              have z890 := (ra_call I838 J874 (I838.up h_o0) (k := 6) rfl rfl rfl 44)
              have z891 := (ra_call I838 J874 (I838.up h_o0) (k := 7) rfl rfl rfl ((880 + ra M0 o0 6 44).toNat))
              have z892 := (ra_call I838 J874 (I838.up h_o0) (k := 10) rfl rfl rfl ((880 + ra M0 o0 6 44).toNat))
              have E893 : rE M0 M871 o0 0 2 := E856.trans f879 (by decide) (yR.2 5 _ _ rfl 44).1 (by decide) (by decide)
              have K894 : rK M0 M871 o0 ((880 + ra M0 o0 6 44).toNat) := K858.same (sA_c I838 J874 (I838.up h_o0) (by decide +kernel))
              have K895 : nN M871 o0 := K859.same (sA_c I838 J874 (I838.up h_o0) (by decide +kernel)) (sF_c I838 J874 (I838.up h_o0) (by decide +kernel))
              have K896 : pN M871 o0 pn pN9 := K860.same (sA_c I838 J874 (I838.up h_o0) (by decide +kernel)) (sF_c I838 J874 (I838.up h_o0) (by decide +kernel))
              rw [show (1 : Int32).toInt = 1 from by decide] at f881
              rw [show (7 : Int32).toInt = 7 from by decide] at f881
              obtain ⟨s897, e898⟩ : ∃ s9 : p_S, p_num pb pn 1 7 s861 = s9 := ⟨_, rfl⟩
              rw [e898] at f881
              have := f881.w
              clear z853 z854 z855
              have q899 := J874.keep t849 (by decide) q863
              have t900 := J874.up t864
              have q901 := J874.keep t849 (by decide) q868
              refine tr_iastR (k := 8) I875 R878 (I875.up h_o0) q901 t884 (by decide) (by decide) (fun lo hi h => by cases h; have := R878.1 15 _ _ rfl; have := R878.1 16 _ _ rfl; have := R878.1 19 _ _ rfl; exact ⟨by show ((-1) : Int) ≤ v877.toInt; omega, by show v877.toInt ≤ (720 : Int); omega⟩) (Or.inl (by decide)) d_TrustDeskModel_readClause_147 (vp_in_iff.mpr (by have := R878.1 15 _ _ rfl; have := R878.1 16 _ _ rfl; have := R878.1 19 _ _ rfl; omega)) (fun M902 I903 K904 R905 E906 A907 V908 => ?_)
              have z909 := (V908 15)
              have z910 := (V908 16)
              have z911 := (V908 17)
              have z912 := (V908 19)
              have z913 := (V908 22).trans z887
              have z914 := (V908 24).trans z888
              have z915 := (A907 5 (by decide) rfl 44).trans z889
              have z916 := (A907 6 (by decide) rfl 44).trans z890
              have z917 := (A907 7 (by decide) rfl ((880 + ra M0 o0 6 44).toNat)).trans z891
              have z918 := (A907 10 (by decide) rfl ((880 + ra M0 o0 6 44).toNat)).trans z892
              have E919 : rE M0 M902 o0 0 2 := E893.same (fun k _ _ => V908 k) (fun k h1 h2 => A907 k (by omega) (by rcases (show k = 4 ∨ k = 5 by omega) with rfl | rfl <;> rfl))
              have h920 : (880 + ra M0 o0 6 44).toNat = v840.toNatClampNeg := by have := mz_nat9 (i := v840) (by have := R878.1 15 _ _ rfl; have := R878.1 16 _ _ rfl; have := R878.1 19 _ _ rfl; omega); have := R878.1 15 _ _ rfl; have := R878.1 16 _ _ rfl; have := R878.1 19 _ _ rfl; omega
              have z921 : ra M902 o0 8 ((880 + ra M0 o0 6 44).toNat) = v877.toInt := (E906 _).trans (if_pos h920)
              have K922 : rK M0 M902 o0 ((880 + ra M0 o0 6 44).toNat) := K894.st A907 E906 (by have := mz_nat9 (i := v840) (by have := R878.1 15 _ _ rfl; have := R878.1 16 _ _ rfl; have := R878.1 19 _ _ rfl; omega); have := R878.1 15 _ _ rfl; have := R878.1 16 _ _ rfl; have := R878.1 19 _ _ rfl; omega)
              have K923 : nN M902 o0 := K895.same (sA_a A907 (by decide +kernel)) (sF_a V908)
              have K924 : pN M902 o0 pn pN9 := K896.same (sA_a A907 (by decide +kernel)) (sF_a V908)
              have Z9925 : pO M902 o0 pb pn pa s897 := f881.same (fun k _ _ => V908 k) (V908 23) (A907 13 (by decide) rfl)
              clear z887 z888 z889 z890 z891 z892
              refine mv_aload_n d_TrustDeskModel_readClause_148 rfl rfl ?_
              obtain ⟨a927, q926, t_a927⟩ := tm_atR I903 t883 (k := 9) rfl
              refine tr_getK q926 d_TrustDeskModel_readClause_149 f_TrustDeskModel_32_13 ?_
              refine mv_iload_n d_TrustDeskModel_readClause_152 rfl rfl ?_
              refine mv_aload_n d_TrustDeskModel_readClause_153 rfl rfl ?_
              refine mv_iconst (v := 1) d_TrustDeskModel_readClause_154 (by decide) ?_
              refine mv_aload_n d_TrustDeskModel_readClause_155 rfl rfl ?_
              refine tr_getK (k := 8) (K904 _ 13 8 _ q901) d_TrustDeskModel_readClause_156 f_TrustDeskModel_29_13 ?_
              refine mv_iload_n d_TrustDeskModel_readClause_159 rfl rfl ?_
              refine tr_ialdR (o := o0) (k := 8) I903 (K904 _ 13 8 _ q901) t884 (by decide) d_TrustDeskModel_readClause_160 (vp_in_iff.mpr (by have := R905.1 15 _ _ rfl; have := R905.1 16 _ _ rfl; have := R905.1 19 _ _ rfl; omega)) (fun v928 e929 => ?_)
              have := R905.a (k := 8) rfl (v840 : Int32).toNatClampNeg
              have h930 : (880 + ra M0 o0 6 44).toNat = v840.toNatClampNeg := by have := mz_nat9 (i := v840) (by have := R905.1 15 _ _ rfl; have := R905.1 16 _ _ rfl; have := R905.1 19 _ _ rfl; omega); have := R905.1 15 _ _ rfl; have := R905.1 16 _ _ rfl; have := R905.1 19 _ _ rfl; omega
              have z931 : v928.toInt = ra M902 o0 8 ((880 + ra M0 o0 6 44).toNat) := by rw [e929, h930]
              have : v928.toInt = _ := Eq.trans z931 z921
              obtain ⟨_, b938, -⟩ := I903.1 _ _ t883
              have : (1 : Int32).toInt = 1 := by decide
              refine mv_callV (kc' := 0) (ks' := 0) (As := [.int 1, .int v928]) (st9 := [.int v928, .int 1, .ref o0, .int v840, .ref a927]) d_TrustDeskModel_readClause_161 lV_TrustDeskModel_317 b938 rfl (tc_TrustDeskModel_number_x (d := (d + 23)) (x9 := x9) (o0 := o0) (x1 := 1) (x2 := v928) t883 R905 E919.1 (E919.s yS (by decide)) Z9925 I903.start) rfl (Nat.le_of_ble_eq_true rfl) (Nat.le_of_ble_eq_true rfl) (Nat.le_of_ble_eq_true rfl) (hst := rfl) (fun b932r M933 n934 b932 => ?_)
              obtain ⟨T935, J936, v939, rfl, R940, f941, f942, f943, f944⟩ := b932
              have I937 := I903.call J936 (tm_sub (by decide)) (Or.inl rfl)
              have t945 := J936.up t883
              have t946 := J936.up t_a927
              have := f941.2.1
              have f947 := Im.i f941.w.2
              have f948 := Im.i f941.w2
              replace f944 := Im.i f944
              have z949 := (rv_c I903 J936 (I903.up h_o0) (k := 22) rfl).trans z913
              have z950 := (rv_c I903 J936 (I903.up h_o0) (k := 24) rfl).trans z914
              have z951 := (ra_call I903 J936 (I903.up h_o0) (k := 5) rfl rfl rfl 44).trans z915
              have z952 := (ra_call I903 J936 (I903.up h_o0) (k := 6) rfl rfl rfl 44).trans z916
              have z953 := (ra_call I903 J936 (I903.up h_o0) (k := 7) rfl rfl rfl ((880 + ra M0 o0 6 44).toNat)).trans z917
              have z954 := (ra_call I903 J936 (I903.up h_o0) (k := 10) rfl rfl rfl ((880 + ra M0 o0 6 44).toNat)).trans z918
              have z955 := (ra_call I903 J936 (I903.up h_o0) (k := 8) rfl rfl rfl ((880 + ra M0 o0 6 44).toNat)).trans z921
              have E956 : rE M0 M933 o0 0 3 := E919.trans f941 (by decide) (yR.2 5 _ _ rfl 44).1 (by decide) (by decide)
              have K957 : rK M0 M933 o0 ((880 + ra M0 o0 6 44).toNat) := K922.same (sA_c I903 J936 (I903.up h_o0) (by decide +kernel))
              have K958 : nN M933 o0 := K923.same (sA_c I903 J936 (I903.up h_o0) (by decide +kernel)) (sF_c I903 J936 (I903.up h_o0) (by decide +kernel))
              have K959 : pN M933 o0 pn pN9 := K924.same (sA_c I903 J936 (I903.up h_o0) (by decide +kernel)) (sF_c I903 J936 (I903.up h_o0) (by decide +kernel))
              rw [show (1 : Int32).toInt = 1 from by decide] at f943
              obtain ⟨s960, e961⟩ : ∃ s9 : p_S, p_num pb pn 1 v928.toInt s897 = s9 := ⟨_, rfl⟩
              rw [e961] at f943
              have := f943.w
              have q962 : v928.toInt = v877.toInt := by omega
              have q963 := Im.i (fun h9 : s897.1 = 0 => q962.trans (f882.o (f881.w.trans h9)))
              clear z913 z914 z915 z916 z917 z918 z921
              have q964 := J936.keep t883 (by decide) (K904 _ 13 6 _ q899)
              have t965 := J936.up t900
              have q966 := J936.keep t883 (by decide) (K904 _ 13 8 _ q901)
              have t967 := J936.up t884
              have q968 := J936.keep t883 (by decide) q926
              refine tr_iastR (k := 9) I937 R940 (I937.up h_o0) q968 t946 (by decide) (by decide) (fun lo hi h => by cases h) (Or.inl (by decide)) d_TrustDeskModel_readClause_164 (vp_in_iff.mpr (by have := R940.1 15 _ _ rfl; have := R940.1 16 _ _ rfl; have := R940.1 19 _ _ rfl; omega)) (fun M969 I970 K971 R972 E973 A974 V975 => ?_)
              have z976 := (V975 15)
              have z977 := (V975 16)
              have z978 := (V975 17)
              have z979 := (V975 19)
              have z980 := (V975 22).trans z949
              have z981 := (V975 24).trans z950
              have z982 := (A974 5 (by decide) rfl 44).trans z951
              have z983 := (A974 6 (by decide) rfl 44).trans z952
              have z984 := (A974 7 (by decide) rfl ((880 + ra M0 o0 6 44).toNat)).trans z953
              have z985 := (A974 10 (by decide) rfl ((880 + ra M0 o0 6 44).toNat)).trans z954
              have z986 := (A974 8 (by decide) rfl ((880 + ra M0 o0 6 44).toNat)).trans z955
              have E987 : rE M0 M969 o0 0 3 := E956.same (fun k _ _ => V975 k) (fun k h1 h2 => A974 k (by omega) (by rcases (show k = 4 ∨ k = 5 by omega) with rfl | rfl <;> rfl))
              have K988 : rK M0 M969 o0 ((880 + ra M0 o0 6 44).toNat) := K957.same (sA_a A974 (by decide +kernel))
              have K989 : nN M969 o0 := K958.same (sA_a A974 (by decide +kernel)) (sF_a V975)
              have K990 : pN M969 o0 pn pN9 := K959.same (sA_a A974 (by decide +kernel)) (sF_a V975)
              have Z9991 : pO M969 o0 pb pn pa s960 := f943.same (fun k _ _ => V975 k) (V975 23) (A974 13 (by decide) rfl)
              clear z949 z950 z951 z952 z953 z954 z955
              refine mv_aload_n d_TrustDeskModel_readClause_165 rfl rfl ?_
              refine mv_bipush (v := 59) d_TrustDeskModel_readClause_166 (by decide) ?_
              obtain ⟨_, b998, -⟩ := I970.1 _ _ t945
              have : (59 : Int32).toInt = 59 := by decide
              refine mv_callV (kc' := 0) (ks' := 0) (As := [.int 59]) (st9 := [.int 59, .ref o0]) d_TrustDeskModel_readClause_168 lV_TrustDeskModel_291 b998 rfl (tc_TrustDeskModel_wantSign_x (d := (d + 23)) (x9 := x9) (o0 := o0) (x1 := 59) t945 R972 E987.1 (E987.s yS (by decide)) (by decide) Z9991 I970.start) rfl (Nat.le_of_ble_eq_true rfl) (Nat.le_of_ble_eq_true rfl) (Nat.le_of_ble_eq_true rfl) (hst := rfl) (fun b992r M993 n994 b992 => ?_)
              obtain ⟨T995, J996, rfl, R999, f1000, f1001⟩ := b992
              have I997 := I970.call J996 (tm_sub (by decide)) (Or.inl rfl)
              have t1002 := J996.up t945
              have := f1000.2.1
              have f1003 := Im.i f1000.w.2
              have f1004 := Im.i f1000.w2
              have z1005 := (rv_c I970 J996 (I970.up h_o0) (k := 22) rfl).trans z980
              have z1006 := (rv_c I970 J996 (I970.up h_o0) (k := 24) rfl).trans z981
              have z1007 := (ra_call I970 J996 (I970.up h_o0) (k := 5) rfl rfl rfl 44).trans z982
              have z1008 := (ra_call I970 J996 (I970.up h_o0) (k := 6) rfl rfl rfl 44).trans z983
              have z1009 := (ra_call I970 J996 (I970.up h_o0) (k := 7) rfl rfl rfl ((880 + ra M0 o0 6 44).toNat)).trans z984
              have z1010 := (ra_call I970 J996 (I970.up h_o0) (k := 10) rfl rfl rfl ((880 + ra M0 o0 6 44).toNat)).trans z985
              have z1011 := (ra_call I970 J996 (I970.up h_o0) (k := 8) rfl rfl rfl ((880 + ra M0 o0 6 44).toNat)).trans z986
              have E1012 : rE M0 M993 o0 0 4 := E987.trans f1000 (by decide) (yR.2 5 _ _ rfl 44).1 (by decide) (by decide)
              have K1013 : rK M0 M993 o0 ((880 + ra M0 o0 6 44).toNat) := K988.same (sA_c I970 J996 (I970.up h_o0) (by decide +kernel))
              have K1014 : nN M993 o0 := K989.same (sA_c I970 J996 (I970.up h_o0) (by decide +kernel)) (sF_c I970 J996 (I970.up h_o0) (by decide +kernel))
              have K1015 : pN M993 o0 pn pN9 := K990.same (sA_c I970 J996 (I970.up h_o0) (by decide +kernel)) (sF_c I970 J996 (I970.up h_o0) (by decide +kernel))
              rw [show (59 : Int32).toInt = 59 from by decide] at f1001
              obtain ⟨s1016, e1017⟩ : ∃ s9 : p_S, p_sg pb pn 59 s960 = s9 := ⟨_, rfl⟩
              rw [e1017] at f1001
              have := f1001.w
              clear z980 z981 z982 z983 z984 z985 z986
              have q1018 := J996.keep t945 (by decide) (K971 _ 13 6 _ q964)
              have t1019 := J996.up t965
              have q1020 := J996.keep t945 (by decide) (K971 _ 13 8 _ q966)
              have t1021 := J996.up t967
              have q1022 := J996.keep t945 (by decide) (K971 _ 13 9 _ q968)
              have t1023 := J996.up t946
              refine mv_aload_n d_TrustDeskModel_readClause_171 rfl rfl ?_
              obtain ⟨a1025, q1024, t_a1025⟩ := tm_atR I997 t1002 (k := 12) rfl
              refine tr_getK q1024 d_TrustDeskModel_readClause_172 f_TrustDeskModel_41_13 ?_
              refine mv_iload_n d_TrustDeskModel_readClause_175 rfl rfl ?_
              refine mv_aload_n d_TrustDeskModel_readClause_176 rfl rfl ?_
              obtain ⟨a1027, q1026, t_a1027⟩ := tm_atR I997 t1002 (k := 5) rfl
              refine tr_getK q1026 d_TrustDeskModel_readClause_177 f_TrustDeskModel_20_13 ?_
              refine mv_bipush (v := 44) d_TrustDeskModel_readClause_180 (by decide) ?_
              refine tr_ialdR (o := o0) (k := 5) I997 q1026 t_a1027 (by decide) d_TrustDeskModel_readClause_182 (by unfold vp_in; decide) (fun v1028 e1029 => ?_)
              have := R999.a (k := 5) rfl (44 : Int32).toNatClampNeg
              have : v1028.toInt = ra M993 o0 5 44 := e1029
              have : v1028.toInt = _ := Eq.trans e1029 z1007
              refine tr_iastR (k := 12) I997 R999 (I997.up h_o0) q1024 t_a1025 (by decide) (by decide) (fun lo hi h => by cases h; have := R999.1 15 _ _ rfl; have := R999.1 16 _ _ rfl; have := R999.1 19 _ _ rfl; exact ⟨by show (0 : Int) ≤ v1028.toInt; omega, by show v1028.toInt ≤ (400 : Int); omega⟩) (Or.inl (by decide)) d_TrustDeskModel_readClause_183 (vp_in_iff.mpr (by have := R999.1 15 _ _ rfl; have := R999.1 16 _ _ rfl; have := R999.1 19 _ _ rfl; omega)) (fun M1030 I1031 K1032 R1033 E1034 A1035 V1036 => ?_)
              have z1037 := (V1036 15)
              have z1038 := (V1036 16)
              have z1039 := (V1036 17)
              have z1040 := (V1036 19)
              have z1041 := (V1036 22).trans z1005
              have z1042 := (V1036 24).trans z1006
              have z1043 := (A1035 5 (by decide) rfl 44).trans z1007
              have z1044 := (A1035 6 (by decide) rfl 44).trans z1008
              have z1045 := (A1035 7 (by decide) rfl ((880 + ra M0 o0 6 44).toNat)).trans z1009
              have z1046 := (A1035 10 (by decide) rfl ((880 + ra M0 o0 6 44).toNat)).trans z1010
              have z1047 := (A1035 8 (by decide) rfl ((880 + ra M0 o0 6 44).toNat)).trans z1011
              have E1048 : rE M0 M1030 o0 0 4 := E1012.same (fun k _ _ => V1036 k) (fun k h1 h2 => A1035 k (by omega) (by rcases (show k = 4 ∨ k = 5 by omega) with rfl | rfl <;> rfl))
              have h1049 : (880 + ra M0 o0 6 44).toNat = v840.toNatClampNeg := by have := mz_nat9 (i := v840) (by have := R999.1 15 _ _ rfl; have := R999.1 16 _ _ rfl; have := R999.1 19 _ _ rfl; omega); have := R999.1 15 _ _ rfl; have := R999.1 16 _ _ rfl; have := R999.1 19 _ _ rfl; omega
              have z1050 : ra M1030 o0 12 ((880 + ra M0 o0 6 44).toNat) = v1028.toInt := (E1034 _).trans (if_pos h1049)
              have K1051 : rK M0 M1030 o0 ((880 + ra M0 o0 6 44).toNat) := K1013.st A1035 E1034 (by have := mz_nat9 (i := v840) (by have := R999.1 15 _ _ rfl; have := R999.1 16 _ _ rfl; have := R999.1 19 _ _ rfl; omega); have := R999.1 15 _ _ rfl; have := R999.1 16 _ _ rfl; have := R999.1 19 _ _ rfl; omega)
              have K1052 : nN M1030 o0 := K1014.same (sA_a A1035 (by decide +kernel)) (sF_a V1036)
              have K1053 : pN M1030 o0 pn pN9 := K1015.same (sA_a A1035 (by decide +kernel)) (sF_a V1036)
              have Z91054 : pO M1030 o0 pb pn pa s1016 := f1001.same (fun k _ _ => V1036 k) (V1036 23) (A1035 13 (by decide) rfl)
              clear z1005 z1006 z1007 z1008 z1009 z1010 z1011
              exact mv_vret d_TrustDeskModel_readClause_184 rfl ⟨_, I1031, rfl, R1033, (rW.of E1048.1 (E1048.s yS (by decide)) (fun w9 => by have u91 : rv M993 o0 19 = 0 := (by omega); have := f1003.o u91; have := f1004.o u91; have u92 : rv M933 o0 19 = 0 := (by omega); have := f947.o u92; have := f948.o u92; have := f944.o u92; have u93 : rv M871 o0 19 = 0 := (by omega); have := f885.o u93; have := f886.o u93; have := f882.o u93; have u94 : rv M834 o0 19 = 0 := (by omega); have := f850.o u94; have := f851.o u94; exact rG.step yG yR E1048 w9 K1051 (by have := yR.2 6 _ _ rfl 44; omega) (by have := R1033.1 15 _ _ rfl; have := R1033.1 16 _ _ rfl; have := R1033.1 19 _ _ rfl; omega) (by have := R1033.1 15 _ _ rfl; have := R1033.1 16 _ _ rfl; have := R1033.1 19 _ _ rfl; omega) (fun h9 => by exfalso; have := R1033.1 15 _ _ rfl; have := R1033.1 16 _ _ rfl; have := R1033.1 19 _ _ rfl; omega) (fun h9 => (by have := R1033.1 15 _ _ rfl; have := R1033.1 16 _ _ rfl; have := R1033.1 19 _ _ rfl; omega)) (by have := R1033.1 15 _ _ rfl; have := R1033.1 16 _ _ rfl; have := R1033.1 19 _ _ rfl; omega) K1052)), (rO.of E1048 K1051 (by have := yR.2 6 _ _ rfl 44; omega)), ⟨E1048.2.1, fun w9 => by skip; have := E1048.w2 w9; omega⟩, (fun w9 => by have u91 : rv M993 o0 19 = 0 := (by omega); have := f1003.o u91; have := f1004.o u91; have u92 : rv M933 o0 19 = 0 := (by omega); have := f947.o u92; have := f948.o u92; have := f944.o u92; have u93 : rv M871 o0 19 = 0 := (by omega); have := f885.o u93; have := f886.o u93; have := f882.o u93; have u94 : rv M834 o0 19 = 0 := (by omega); have := f850.o u94; have := f851.o u94; omega), (fun h9 _ => absurd h9 (f16.o (by have := R1033.1 15 _ _ rfl; have := R1033.1 16 _ _ rfl; have := R1033.1 19 _ _ rfl; omega))), (by have := R1033.1 15 _ _ rfl; have := R1033.1 16 _ _ rfl; have := R1033.1 19 _ _ rfl; omega), (by rw [show (p_cl pb pn pa (pc9, pN9, ps)).2 = s1016 from (congrArg Prod.snd (p_cl_t (yO.w.symm.trans yw) (pW1 (Im.o d754) (by omega)) (Im.o h792))).trans (by show _ = _; (try dsimp only); unfold p_tru; simp only [e862, e898]; rw [p_num_hi q963.o]; (try (first | (simp only [e862, e898, e961, e1017]; done) | (simp only [e862, e898, e961, e1017]; first | exact p_sg_Z _ (by omega) | omega))))]; exact Z91054), (fun w9 => by have u91 : rv M993 o0 19 = 0 := (by omega); have := f1003.o u91; have := f1004.o u91; have u92 : rv M933 o0 19 = 0 := (by omega); have := f947.o u92; have := f948.o u92; have := f944.o u92; have u93 : rv M871 o0 19 = 0 := (by omega); have := f885.o u93; have := f886.o u93; have := f882.o u93; have u94 : rv M834 o0 19 = 0 := (by omega); have := f850.o u94; have := f851.o u94; omega), (fun w9 => by have e9 : (p_cl pb pn pa (pc9, pN9, ps)).1 = pN9 := (congrArg Prod.fst (p_cl_t (yO.w.symm.trans yw) (pW1 (Im.o d754) (by omega)) (Im.o h792))).trans (by (try rw [← e862]); rfl); rw [e9]; exact K1053)⟩
            · refine mv_bipush (v := 7) d_TrustDeskModel_readClause_100 (by decide) ?_
              refine mv_goto (tgt := 107) d_TrustDeskModel_readClause_102 (by decide) ?_
              obtain ⟨_, b1061, -⟩ := I804.1 _ _ t813
              have : (7 : Int32).toInt = 7 := by decide
              refine mv_callV (kc' := 0) (ks' := 0) (As := [.int 7]) (st9 := [.int 7, .ref o0]) d_TrustDeskModel_readClause_107 lV_TrustDeskModel_342 b1061 rfl (tc_TrustDeskModel_begin_x (d := (d + 23)) (x9 := x9) (o0 := o0) (x1 := 7) t813 R809 E822.1 (E822.s yS (by decide)) (by have := R809.1 15 _ _ rfl; have := R809.1 16 _ _ rfl; have := R809.1 19 _ _ rfl; omega) (by have := f810.o (by omega); omega) (by have := R809.1 15 _ _ rfl; have := R809.1 16 _ _ rfl; have := R809.1 19 _ _ rfl; omega) Z9826 I804.start) rfl (Nat.le_of_ble_eq_true rfl) (Nat.le_of_ble_eq_true rfl) (Nat.le_of_ble_eq_true rfl) (hst := rfl) (fun b1055r M1056 n1057 b1055 => ?_)
              obtain ⟨T1058, J1059, v1062, rfl, R1063, f1064, f1065, f1066, f1067, f1068, f1069, f1070⟩ := b1055
              have I1060 := I804.call J1059 (tm_sub (by decide)) (Or.inl rfl)
              have t1071 := J1059.up t813
              have := f1064.2.1
              have f1072 := Im.i f1064.w.2
              have f1073 := Im.i f1064.w2
              have z1074 := (rv_c I804 J1059 (I804.up h_o0) (k := 19) rfl).trans z817
              have z1075 := (rv_c I804 J1059 (I804.up h_o0) (k := 22) rfl).trans z818
              have z1076 := (rv_c I804 J1059 (I804.up h_o0) (k := 24) rfl).trans z819
              have z1077 := (ra_call I804 J1059 (I804.up h_o0) (k := 5) rfl rfl rfl 44).trans z820
              have E1078 : rE M0 M1056 o0 0 1 := E822.trans f1064 (by decide) (yR.2 5 _ _ rfl 44).1 (by decide) (by decide)
              have h1079 : (880 + ra M800 o0 6 44).toNat = (880 + ra M0 o0 6 44).toNat := by omega
              rw [h1079] at f1067 f1068 f1069
              have K1080 : rK M0 M1056 o0 ((880 + ra M0 o0 6 44).toNat) := K823.trans f1069
              have K1081 : nN M1056 o0 := K824.same (sA_c I804 J1059 (I804.up h_o0) (by decide +kernel)) (sF_c I804 J1059 (I804.up h_o0) (by decide +kernel))
              have K1082 : pN M1056 o0 pn pN9 := K825.same (sA_c I804 J1059 (I804.up h_o0) (by decide +kernel)) (sF_c I804 J1059 (I804.up h_o0) (by decide +kernel))
              obtain ⟨s1083, e1084⟩ : ∃ s9 : p_S, p_nx ps = s9 := ⟨_, rfl⟩
              rw [e1084] at f1070
              have := f1070.w
              clear z818 z819
              have q1085 := J1059.keep t813 (by decide) q828
              have t1086 := J1059.up t829
              have q1087 := J1059.keep t813 (by decide) q830
              refine mv_istore_n (lv' := [(3, .int v1062), (2, .int v806), (1, .int v10), (0, .ref o0)]) d_TrustDeskModel_readClause_110 rfl (by decide) rfl ?_
              refine mv_iload_n d_TrustDeskModel_readClause_111 rfl rfl ?_
              have := mz_hi v10
              refine mv_if_eqZ (tgt := 123) (a := v10.toInt) d_TrustDeskModel_readClause_112 (by decide) rfl (fun b1088 => ?_) (fun b1088 => absurd b1088 (by omega))
              refine mv_iload_n d_TrustDeskModel_readClause_123 rfl rfl ?_
              have := mz_hi v806
              refine mv_if_eqZ (tgt := 135) (a := v806.toInt) d_TrustDeskModel_readClause_124 (by decide) rfl (fun b1089 => absurd b1089 (by omega)) (fun b1089 => ?_)
              refine mv_aload_n d_TrustDeskModel_readClause_127 rfl rfl ?_
              refine mv_iload_n d_TrustDeskModel_readClause_128 rfl rfl ?_
              obtain ⟨_, b1096, -⟩ := I1060.1 _ _ t1071
              refine mv_callV (kc' := 0) (ks' := 0) (As := [.int v1062]) (st9 := [.int v1062, .ref o0]) d_TrustDeskModel_readClause_129 lV_TrustDeskModel_348 b1096 rfl (tc_TrustDeskModel_readMarks_x (d := (d + 22)) (x9 := x9) (o0 := o0) (x1 := v1062) t1071 R1063 E1078.1 (E1078.s yS (by decide)) (by have := R1063.1 15 _ _ rfl; have := R1063.1 16 _ _ rfl; have := R1063.1 19 _ _ rfl; omega) f1070 I1060.start) rfl (Nat.le_of_ble_eq_true rfl) (Nat.le_of_ble_eq_true rfl) (Nat.le_of_ble_eq_true rfl) (hst := rfl) (fun b1090r M1091 n1092 b1090 => ?_)
              obtain ⟨T1093, J1094, rfl, R1097, f1098, f1099, f1100, f1101⟩ := b1090
              have I1095 := I1060.call J1094 (tm_sub (by decide)) (Or.inl rfl)
              have t1102 := J1094.up t1071
              have := f1098.2.1
              have f1103 := Im.i f1098.w.2
              have f1104 := Im.i f1098.w2
              have z1105 := (rv_c I1060 J1094 (I1060.up h_o0) (k := 22) rfl).trans z1075
              have z1106 := (rv_c I1060 J1094 (I1060.up h_o0) (k := 24) rfl).trans z1076
              have z1107 := (ra_call I1060 J1094 (I1060.up h_o0) (k := 5) rfl rfl rfl 44).trans z1077
              have z1108 := (ra_call I1060 J1094 (I1060.up h_o0) (k := 6) rfl rfl rfl 44)
              have z1109 := (ra_call I1060 J1094 (I1060.up h_o0) (k := 7) rfl rfl rfl ((880 + ra M0 o0 6 44).toNat))
              have z1110 := (ra_call I1060 J1094 (I1060.up h_o0) (k := 10) rfl rfl rfl ((880 + ra M0 o0 6 44).toNat))
              have E1111 : rE M0 M1091 o0 0 1 := E1078.trans f1098 (by decide) (yR.2 5 _ _ rfl 44).1 (by decide) (by decide)
              have h1112 : v1062.toNatClampNeg = (880 + ra M0 o0 6 44).toNat := by have := mz_nat9 (i := v1062) (by have := R1063.1 15 _ _ rfl; have := R1063.1 16 _ _ rfl; have := R1063.1 19 _ _ rfl; omega); have := R1063.1 15 _ _ rfl; have := R1063.1 16 _ _ rfl; have := R1063.1 19 _ _ rfl; omega
              rw [h1112] at f1099 f1100
              have K1113 : rK M0 M1091 o0 ((880 + ra M0 o0 6 44).toNat) := K1080.one8 (sA_c I1060 J1094 (I1060.up h_o0) (by decide)) f1099
              have K1114 : nN M1091 o0 := K1081.same (sA_c I1060 J1094 (I1060.up h_o0) (by decide +kernel)) (sF_c I1060 J1094 (I1060.up h_o0) (by decide +kernel))
              have K1115 : pN M1091 o0 pn pN9 := K1082.same (sA_c I1060 J1094 (I1060.up h_o0) (by decide +kernel)) (sF_c I1060 J1094 (I1060.up h_o0) (by decide +kernel))
              obtain ⟨s1116, e1117⟩ : ∃ s9 : p_S, p_mar pb pn s1083 = s9 := ⟨_, rfl⟩
              rw [e1117] at f1101
              have := f1101.w
              clear z1075 z1076 z1077
              have q1118 := J1094.keep t1071 (by decide) q1085
              have t1119 := J1094.up t1086
              refine mv_goto (tgt := 165) d_TrustDeskModel_readClause_132 (by decide) ?_
              refine mv_aload_n d_TrustDeskModel_readClause_165 rfl rfl ?_
              refine mv_bipush (v := 59) d_TrustDeskModel_readClause_166 (by decide) ?_
              obtain ⟨_, b1126, -⟩ := I1095.1 _ _ t1102
              have : (59 : Int32).toInt = 59 := by decide
              refine mv_callV (kc' := 0) (ks' := 0) (As := [.int 59]) (st9 := [.int 59, .ref o0]) d_TrustDeskModel_readClause_168 lV_TrustDeskModel_291 b1126 rfl (tc_TrustDeskModel_wantSign_x (d := (d + 23)) (x9 := x9) (o0 := o0) (x1 := 59) t1102 R1097 E1111.1 (E1111.s yS (by decide)) (by decide) f1101 I1095.start) rfl (Nat.le_of_ble_eq_true rfl) (Nat.le_of_ble_eq_true rfl) (Nat.le_of_ble_eq_true rfl) (hst := rfl) (fun b1120r M1121 n1122 b1120 => ?_)
              obtain ⟨T1123, J1124, rfl, R1127, f1128, f1129⟩ := b1120
              have I1125 := I1095.call J1124 (tm_sub (by decide)) (Or.inl rfl)
              have t1130 := J1124.up t1102
              have := f1128.2.1
              have f1131 := Im.i f1128.w.2
              have f1132 := Im.i f1128.w2
              have z1133 := (rv_c I1095 J1124 (I1095.up h_o0) (k := 22) rfl).trans z1105
              have z1134 := (rv_c I1095 J1124 (I1095.up h_o0) (k := 24) rfl).trans z1106
              have z1135 := (ra_call I1095 J1124 (I1095.up h_o0) (k := 5) rfl rfl rfl 44).trans z1107
              have z1136 := (ra_call I1095 J1124 (I1095.up h_o0) (k := 6) rfl rfl rfl 44).trans z1108
              have z1137 := (ra_call I1095 J1124 (I1095.up h_o0) (k := 7) rfl rfl rfl ((880 + ra M0 o0 6 44).toNat)).trans z1109
              have z1138 := (ra_call I1095 J1124 (I1095.up h_o0) (k := 10) rfl rfl rfl ((880 + ra M0 o0 6 44).toNat)).trans z1110
              have z1139 := (ra_call I1095 J1124 (I1095.up h_o0) (k := 8) rfl rfl rfl ((880 + ra M0 o0 6 44).toNat))
              have E1140 : rE M0 M1121 o0 0 2 := E1111.trans f1128 (by decide) (yR.2 5 _ _ rfl 44).1 (by decide) (by decide)
              have K1141 : rK M0 M1121 o0 ((880 + ra M0 o0 6 44).toNat) := K1113.same (sA_c I1095 J1124 (I1095.up h_o0) (by decide +kernel))
              have K1142 : nN M1121 o0 := K1114.same (sA_c I1095 J1124 (I1095.up h_o0) (by decide +kernel)) (sF_c I1095 J1124 (I1095.up h_o0) (by decide +kernel))
              have K1143 : pN M1121 o0 pn pN9 := K1115.same (sA_c I1095 J1124 (I1095.up h_o0) (by decide +kernel)) (sF_c I1095 J1124 (I1095.up h_o0) (by decide +kernel))
              rw [show (59 : Int32).toInt = 59 from by decide] at f1129
              obtain ⟨s1144, e1145⟩ : ∃ s9 : p_S, p_sg pb pn 59 s1116 = s9 := ⟨_, rfl⟩
              rw [e1145] at f1129
              have := f1129.w
              clear z1105 z1106 z1107 z1108 z1109 z1110
              have q1146 := J1124.keep t1102 (by decide) q1118
              have t1147 := J1124.up t1119
              refine mv_aload_n d_TrustDeskModel_readClause_171 rfl rfl ?_
              obtain ⟨a1149, q1148, t_a1149⟩ := tm_atR I1125 t1130 (k := 12) rfl
              refine tr_getK q1148 d_TrustDeskModel_readClause_172 f_TrustDeskModel_41_13 ?_
              refine mv_iload_n d_TrustDeskModel_readClause_175 rfl rfl ?_
              refine mv_aload_n d_TrustDeskModel_readClause_176 rfl rfl ?_
              obtain ⟨a1151, q1150, t_a1151⟩ := tm_atR I1125 t1130 (k := 5) rfl
              refine tr_getK q1150 d_TrustDeskModel_readClause_177 f_TrustDeskModel_20_13 ?_
              refine mv_bipush (v := 44) d_TrustDeskModel_readClause_180 (by decide) ?_
              refine tr_ialdR (o := o0) (k := 5) I1125 q1150 t_a1151 (by decide) d_TrustDeskModel_readClause_182 (by unfold vp_in; decide) (fun v1152 e1153 => ?_)
              have := R1127.a (k := 5) rfl (44 : Int32).toNatClampNeg
              have : v1152.toInt = ra M1121 o0 5 44 := e1153
              have : v1152.toInt = _ := Eq.trans e1153 z1135
              refine tr_iastR (k := 12) I1125 R1127 (I1125.up h_o0) q1148 t_a1149 (by decide) (by decide) (fun lo hi h => by cases h; have := R1127.1 15 _ _ rfl; have := R1127.1 16 _ _ rfl; have := R1127.1 19 _ _ rfl; exact ⟨by show (0 : Int) ≤ v1152.toInt; omega, by show v1152.toInt ≤ (400 : Int); omega⟩) (Or.inl (by decide)) d_TrustDeskModel_readClause_183 (vp_in_iff.mpr (by have := R1127.1 15 _ _ rfl; have := R1127.1 16 _ _ rfl; have := R1127.1 19 _ _ rfl; omega)) (fun M1154 I1155 K1156 R1157 E1158 A1159 V1160 => ?_)
              have z1161 := (V1160 15)
              have z1162 := (V1160 16)
              have z1163 := (V1160 17)
              have z1164 := (V1160 19)
              have z1165 := (V1160 22).trans z1133
              have z1166 := (V1160 24).trans z1134
              have z1167 := (A1159 5 (by decide) rfl 44).trans z1135
              have z1168 := (A1159 6 (by decide) rfl 44).trans z1136
              have z1169 := (A1159 7 (by decide) rfl ((880 + ra M0 o0 6 44).toNat)).trans z1137
              have z1170 := (A1159 10 (by decide) rfl ((880 + ra M0 o0 6 44).toNat)).trans z1138
              have z1171 := (A1159 8 (by decide) rfl ((880 + ra M0 o0 6 44).toNat)).trans z1139
              have E1172 : rE M0 M1154 o0 0 2 := E1140.same (fun k _ _ => V1160 k) (fun k h1 h2 => A1159 k (by omega) (by rcases (show k = 4 ∨ k = 5 by omega) with rfl | rfl <;> rfl))
              have h1173 : (880 + ra M0 o0 6 44).toNat = v1062.toNatClampNeg := by have := mz_nat9 (i := v1062) (by have := R1127.1 15 _ _ rfl; have := R1127.1 16 _ _ rfl; have := R1127.1 19 _ _ rfl; omega); have := R1127.1 15 _ _ rfl; have := R1127.1 16 _ _ rfl; have := R1127.1 19 _ _ rfl; omega
              have z1174 : ra M1154 o0 12 ((880 + ra M0 o0 6 44).toNat) = v1152.toInt := (E1158 _).trans (if_pos h1173)
              have K1175 : rK M0 M1154 o0 ((880 + ra M0 o0 6 44).toNat) := K1141.st A1159 E1158 (by have := mz_nat9 (i := v1062) (by have := R1127.1 15 _ _ rfl; have := R1127.1 16 _ _ rfl; have := R1127.1 19 _ _ rfl; omega); have := R1127.1 15 _ _ rfl; have := R1127.1 16 _ _ rfl; have := R1127.1 19 _ _ rfl; omega)
              have K1176 : nN M1154 o0 := K1142.same (sA_a A1159 (by decide +kernel)) (sF_a V1160)
              have K1177 : pN M1154 o0 pn pN9 := K1143.same (sA_a A1159 (by decide +kernel)) (sF_a V1160)
              have Z91178 : pO M1154 o0 pb pn pa s1144 := f1129.same (fun k _ _ => V1160 k) (V1160 23) (A1159 13 (by decide) rfl)
              clear z1133 z1134 z1135 z1136 z1137 z1138 z1139
              exact mv_vret d_TrustDeskModel_readClause_184 rfl ⟨_, I1155, rfl, R1157, (rW.of E1172.1 (E1172.s yS (by decide)) (fun w9 => by have u91 : rv M1121 o0 19 = 0 := (by omega); have := f1131.o u91; have := f1132.o u91; have u92 : rv M1091 o0 19 = 0 := (by omega); have := f1103.o u92; have := f1104.o u92; have u93 : rv M1056 o0 19 = 0 := (by omega); have := f1072.o u93; have := f1073.o u93; exact rG.step yG yR E1172 w9 K1175 (by have := yR.2 6 _ _ rfl 44; omega) (by have := R1157.1 15 _ _ rfl; have := R1157.1 16 _ _ rfl; have := R1157.1 19 _ _ rfl; omega) (by have := R1157.1 15 _ _ rfl; have := R1157.1 16 _ _ rfl; have := R1157.1 19 _ _ rfl; omega) (fun h9 => by exfalso; have := R1157.1 15 _ _ rfl; have := R1157.1 16 _ _ rfl; have := R1157.1 19 _ _ rfl; omega) (fun h9 => (by have := R1157.1 15 _ _ rfl; have := R1157.1 16 _ _ rfl; have := R1157.1 19 _ _ rfl; omega)) (by have := R1157.1 15 _ _ rfl; have := R1157.1 16 _ _ rfl; have := R1157.1 19 _ _ rfl; omega) K1176)), (rO.of E1172 K1175 (by have := yR.2 6 _ _ rfl 44; omega)), ⟨E1172.2.1, fun w9 => by skip; have := E1172.w2 w9; omega⟩, (fun w9 => by have u91 : rv M1121 o0 19 = 0 := (by omega); have := f1131.o u91; have := f1132.o u91; have u92 : rv M1091 o0 19 = 0 := (by omega); have := f1103.o u92; have := f1104.o u92; have u93 : rv M1056 o0 19 = 0 := (by omega); have := f1072.o u93; have := f1073.o u93; omega), (fun h9 _ => absurd h9 (f16.o (by have := R1157.1 15 _ _ rfl; have := R1157.1 16 _ _ rfl; have := R1157.1 19 _ _ rfl; omega))), (by have := R1157.1 15 _ _ rfl; have := R1157.1 16 _ _ rfl; have := R1157.1 19 _ _ rfl; omega), (absurd (pW1 (Im.o d827) (by omega)) (pW0 (Im.o d301) (by omega))), (fun w9 => by have u91 : rv M1121 o0 19 = 0 := (by omega); have := f1131.o u91; have := f1132.o u91; have u92 : rv M1091 o0 19 = 0 := (by omega); have := f1103.o u92; have := f1104.o u92; have u93 : rv M1056 o0 19 = 0 := (by omega); have := f1072.o u93; have := f1073.o u93; omega), (absurd (pW1 (Im.o d827) (by omega)) (pW0 (Im.o d301) (by omega)))⟩
      · refine mv_aload_n d_TrustDeskModel_readClause_32 rfl rfl ?_
        refine mv_iconst (v := 1) d_TrustDeskModel_readClause_33 (by decide) ?_
        obtain ⟨_, b1185, -⟩ := I731.1 _ _ t740
        have : (1 : Int32).toInt = 1 := by decide
        refine mv_callV (kc' := 0) (ks' := 0) (As := [.int 1]) (st9 := [.int 1, .ref o0]) d_TrustDeskModel_readClause_34 lV_TrustDeskModel_240 b1185 rfl (tc_TrustDeskModel_fails_x (d := (d + 25)) (x9 := x9) (o0 := o0) (x1 := 1) t740 R736 (by decide) Z9753 I731.start) rfl (Nat.le_of_ble_eq_true rfl) (Nat.le_of_ble_eq_true rfl) (Nat.le_of_ble_eq_true rfl) (hst := rfl) (fun b1179r M1180 n1181 b1179 => ?_)
        obtain ⟨T1182, J1183, rfl, R1186, f1187, f1188⟩ := b1179
        have I1184 := I731.call J1183 (tm_sub (by decide)) (Or.inl rfl)
        have t1189 := J1183.up t740
        have z1190 := (rv_c I731 J1183 (I731.up h_o0) (k := 15) rfl).trans z741
        have z1191 := (rv_c I731 J1183 (I731.up h_o0) (k := 16) rfl).trans z742
        have z1192 := (rv_c I731 J1183 (I731.up h_o0) (k := 17) rfl).trans z743
        have z1193 := (rv_c I731 J1183 (I731.up h_o0) (k := 22) rfl).trans z745
        have z1194 := (rv_c I731 J1183 (I731.up h_o0) (k := 24) rfl).trans z746
        have z1195 := (ra_call I731 J1183 (I731.up h_o0) (k := 5) rfl rfl rfl 44).trans z747
        have z1196 := (ra_call I731 J1183 (I731.up h_o0) (k := 6) rfl rfl rfl 44).trans z748
        have E1197 : rE M0 M1180 o0 0 0 := E749.fails (rE_hv I731 J1183 (I731.up h_o0) 15 18 (by decide)) (rE_ha I731 J1183 (I731.up h_o0) (by decide)) f1187 0 0
        have K1198 : rK M0 M1180 o0 ((880 + ra M0 o0 6 44).toNat) := K750.same (sA_c I731 J1183 (I731.up h_o0) (by decide +kernel))
        have K1199 : nN M1180 o0 := K751.same (sA_c I731 J1183 (I731.up h_o0) (by decide +kernel)) (sF_c I731 J1183 (I731.up h_o0) (by decide +kernel))
        have K1200 : pN M1180 o0 pn pN9 := K752.same (sA_c I731 J1183 (I731.up h_o0) (by decide +kernel)) (sF_c I731 J1183 (I731.up h_o0) (by decide +kernel))
        rw [show (1 : Int32).toInt = 1 from by decide] at f1188
        obtain ⟨s1201, e1202⟩ : ∃ s9 : p_S, p_fl pb pn 1 ps = s9 := ⟨_, rfl⟩
        rw [e1202] at f1188
        have := f1188.w
        clear z741 z742 z743 z745 z746 z747 z748
        refine mv_goto (tgt := 70) d_TrustDeskModel_readClause_37 (by decide) ?_
        refine mv_aload_n d_TrustDeskModel_readClause_70 rfl rfl ?_
        obtain ⟨_, b1204, -⟩ := I1184.1 _ _ t1189
        refine mv_callV (kc1 := 0) (ks1 := 0) (kc' := 0) (ks' := 0) (As := []) (st9 := [.ref o0]) d_TrustDeskModel_readClause_71 lV_TrustDeskModel_230 b1204 rfl (mj_enter (by decide) (Nat.le_of_ble_eq_true rfl) ?_) rfl (Nat.le_of_ble_eq_true rfl) (Nat.le_of_ble_eq_true rfl) (Nat.le_of_ble_eq_true rfl) (hst := rfl) (fun _ _ _ h => h)
        refine mv_aload_n d_TrustDeskModel_isWell_0 rfl rfl ?_
        obtain ⟨v1206, q1205⟩ := tm_atI I1184 t1189 (k := 19) rfl
        refine tr_getK q1205 d_TrustDeskModel_isWell_1 f_TrustDeskModel_224_13 ?_
        have := R1186.f (k := 19) q1205 rfl
        have := tm_rv q1205
        refine mv_if_neZ (tgt := 11) (a := v1206.toInt) d_TrustDeskModel_isWell_4 (by decide) rfl (fun b1207 => ?_) (fun b1207 => ?_)
        · refine mv_iconst (v := 0) d_TrustDeskModel_isWell_11 (by decide) ?_
          refine mv_iret d_TrustDeskModel_isWell_12 rfl (by decide) ?_
          refine mv_if_ne_f (tgt := 78) d_TrustDeskModel_readClause_74 (by decide) (by decide) ?_
          exact mv_vret d_TrustDeskModel_readClause_77 rfl ⟨_, I1184, rfl, R1186, (rW.of E1197.1 (fun h9 => by exfalso; skip; have := R1186.1 15 _ _ rfl; have := R1186.1 16 _ _ rfl; have := R1186.1 19 _ _ rfl; omega) (fun h9 => by exfalso; skip; have := R1186.1 15 _ _ rfl; have := R1186.1 16 _ _ rfl; have := R1186.1 19 _ _ rfl; omega)), (rO.of E1197 K1198 (by have := yR.2 6 _ _ rfl 44; omega)), ⟨E1197.2.1, fun w9 => by skip; have := E1197.w2 w9; omega⟩, (fun w9 => by skip; omega), (fun _ h9 => by exfalso; skip; have := R1186.1 15 _ _ rfl; have := R1186.1 16 _ _ rfl; have := R1186.1 19 _ _ rfl; omega), (by have := R1186.1 15 _ _ rfl; have := R1186.1 16 _ _ rfl; have := R1186.1 19 _ _ rfl; omega), (by rw [show (p_cl pb pn pa (pc9, pN9, ps)).2 = s1201 from (congrArg Prod.snd (p_cl_1 (yO.w.symm.trans yw) (pW0 (Im.o d31) (by omega)) (pW0 (Im.o d301) (by omega)) (pW0 (Im.o d754) (by omega)))).trans (by show _ = _; (try dsimp only); (try (first | (simp only [e1202]; done) | (simp only [e1202]; first | exact p_sg_Z _ (by omega) | omega))))]; exact f1188), (fun w9 => by skip; omega), (fun h9 => by exfalso; skip; have := R1186.1 15 _ _ rfl; have := R1186.1 16 _ _ rfl; have := R1186.1 19 _ _ rfl; omega)⟩
        · exfalso
          have := R1186.1 15 _ _ rfl; have := R1186.1 16 _ _ rfl; have := R1186.1 19 _ _ rfl; omega
