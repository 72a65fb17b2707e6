abbrev kY_TrustDeskModel_factor : mj_Y := (⟨"TrustDeskModel", "factor", "()V"⟩, prog_14_method_26_code, 2, (Option.none : Option Jvm.ClassFile.FieldType))
theorem d_TrustDeskModel_factor_0 : decode kY_TrustDeskModel_factor.2.1 0 = .ok (.aload_n 0, 1) := by decide +kernel
theorem d_TrustDeskModel_factor_1 : decode kY_TrustDeskModel_factor.2.1 1 = .ok (.invokevirtual 230, 3) := by decide +kernel
theorem d_TrustDeskModel_factor_4 : decode kY_TrustDeskModel_factor.2.1 4 = .ok (.ifCond .ne 4, 3) := by decide +kernel
theorem d_TrustDeskModel_factor_7 : decode kY_TrustDeskModel_factor.2.1 7 = .ok (.return_, 1) := by decide +kernel
theorem d_TrustDeskModel_factor_8 : decode kY_TrustDeskModel_factor.2.1 8 = .ok (.aload_n 0, 1) := by decide +kernel
theorem d_TrustDeskModel_factor_9 : decode kY_TrustDeskModel_factor.2.1 9 = .ok (.getfield 198, 3) := by decide +kernel
theorem d_TrustDeskModel_factor_12 : decode kY_TrustDeskModel_factor.2.1 12 = .ok (.iconst 2, 1) := by decide +kernel
theorem d_TrustDeskModel_factor_13 : decode kY_TrustDeskModel_factor.2.1 13 = .ok (.if_icmp .ne 18, 3) := by decide +kernel
theorem d_TrustDeskModel_factor_31 : decode kY_TrustDeskModel_factor.2.1 31 = .ok (.aload_n 0, 1) := by decide +kernel
theorem d_TrustDeskModel_factor_32 : decode kY_TrustDeskModel_factor.2.1 32 = .ok (.getfield 198, 3) := by decide +kernel
theorem d_TrustDeskModel_factor_35 : decode kY_TrustDeskModel_factor.2.1 35 = .ok (.iconst 3, 1) := by decide +kernel
theorem d_TrustDeskModel_factor_36 : decode kY_TrustDeskModel_factor.2.1 36 = .ok (.if_icmp .ne 41, 3) := by decide +kernel
theorem d_TrustDeskModel_factor_77 : decode kY_TrustDeskModel_factor.2.1 77 = .ok (.aload_n 0, 1) := by decide +kernel
theorem d_TrustDeskModel_factor_78 : decode kY_TrustDeskModel_factor.2.1 78 = .ok (.bipush 40, 2) := by decide +kernel
theorem d_TrustDeskModel_factor_80 : decode kY_TrustDeskModel_factor.2.1 80 = .ok (.invokevirtual 234, 3) := by decide +kernel
theorem d_TrustDeskModel_factor_83 : decode kY_TrustDeskModel_factor.2.1 83 = .ok (.ifCond .eq 30, 3) := by decide +kernel
theorem d_TrustDeskModel_factor_113 : decode kY_TrustDeskModel_factor.2.1 113 = .ok (.aload_n 0, 1) := by decide +kernel
theorem d_TrustDeskModel_factor_114 : decode kY_TrustDeskModel_factor.2.1 114 = .ok (.iconst 1, 1) := by decide +kernel
theorem d_TrustDeskModel_factor_115 : decode kY_TrustDeskModel_factor.2.1 115 = .ok (.invokevirtual 240, 3) := by decide +kernel
theorem d_TrustDeskModel_factor_118 : decode kY_TrustDeskModel_factor.2.1 118 = .ok (.return_, 1) := by decide +kernel
theorem d_TrustDeskModel_factor_86 : decode kY_TrustDeskModel_factor.2.1 86 = .ok (.aload_n 0, 1) := by decide +kernel
theorem d_TrustDeskModel_factor_87 : decode kY_TrustDeskModel_factor.2.1 87 = .ok (.invokevirtual 285, 3) := by decide +kernel
theorem lV_TrustDeskModel_285 : mj_lV "TrustDeskModel" 285 kY_TrustDeskModel_opens 0 := ⟨⟨(mj_in1 (List.mem_of_getElem? (i := 1721) (by decide +kernel)) rfl), (mj_in1 (List.mem_of_getElem? (i := 10) (by decide +kernel)) rfl), (mj_in1 (List.mem_of_getElem? (i := 1724) (by decide +kernel)) rfl), by decide, rfl, by decide⟩, (mj_in1 (List.mem_of_getElem? (i := 1723) (by decide +kernel)) rfl), (mj_in (List.mem_append_left _ (List.mem_of_getElem? (i := 94) (by decide +kernel))) rfl)⟩
theorem d_TrustDeskModel_factor_90 : decode kY_TrustDeskModel_factor.2.1 90 = .ok (.aload_n 0, 1) := by decide +kernel
theorem d_TrustDeskModel_factor_91 : decode kY_TrustDeskModel_factor.2.1 91 = .ok (.invokevirtual 288, 3) := by decide +kernel
abbrev kY_TrustDeskModel_sum : mj_Y := (⟨"TrustDeskModel", "sum", "()V"⟩, prog_14_method_28_code, 2, (Option.none : Option Jvm.ClassFile.FieldType))
theorem d_TrustDeskModel_sum_0 : decode kY_TrustDeskModel_sum.2.1 0 = .ok (.aload_n 0, 1) := by decide +kernel
theorem d_TrustDeskModel_sum_1 : decode kY_TrustDeskModel_sum.2.1 1 = .ok (.invokevirtual 297, 3) := by decide +kernel
abbrev kY_TrustDeskModel_product : mj_Y := (⟨"TrustDeskModel", "product", "()V"⟩, prog_14_method_27_code, 1, (Option.none : Option Jvm.ClassFile.FieldType))
theorem d_TrustDeskModel_product_0 : decode kY_TrustDeskModel_product.2.1 0 = .ok (.aload_n 0, 1) := by decide +kernel
theorem d_TrustDeskModel_product_1 : decode kY_TrustDeskModel_product.2.1 1 = .ok (.invokevirtual 294, 3) := by decide +kernel
def w_TrustDeskModel_factor_q0_x : List Nat := []
set_option maxHeartbeats 100000000 in theorem tc_TrustDeskModel_factor_q0_x {g : mj_G} {l : Launch} {d : Nat} {T0 : tm_H} {M0 : mj_M} {n0 x9 : Nat} {o0 : Nat} (h_o0 : T0 o0 = some (0, 13, 0)) (yR : rI M0 o0) (yT : rT M0 o0) (yS : rv M0 o0 19 = 0 → ra M0 o0 5 44 ≤ rv M0 o0 16) (yL : rv M0 o0 19 ≠ 0 ∨ (5 ≤ rv M0 o0 22 ∧ rv M0 o0 22 ≤ 4)) {pb : Nat → Int} {pn : Nat} {pa : Int} {ps : p_S} (yO : pO M0 o0 pb pn pa ps) (I0 : tm_I tm_FT (tm_in w_TrustDeskModel_factor_q0_x) x9 T0 M0 n0 T0 M0 n0) : mj_Met g l kY_TrustDeskModel_factor (d + 1) [.ref o0] M0 n0 0 0 (tm_Q tm_FT (tm_in w_TrustDeskModel_factor_q0_x) x9 T0 M0 n0 (fun r _ M => r = none ∧ rI M o0 ∧ (rE M0 M o0 1 0) ∧ (rv M o0 19 = 0 → rv M o0 22 = rv M0 o0 22) ∧ (pO M o0 pb pn pa ps))) := by
  refine mj_enter (by decide) (Nat.le_of_ble_eq_true rfl) ?_
  have yE0 := rE.rf yT
  have := yO.w
  refine mv_aload_n d_TrustDeskModel_factor_0 rfl rfl ?_
  obtain ⟨_, b1, -⟩ := I0.1 _ _ h_o0
  refine mv_callV (kc1 := 0) (ks1 := 0) (kc' := 0) (ks' := 0) (As := []) (st9 := [.ref o0]) d_TrustDeskModel_factor_1 lV_TrustDeskModel_230 b1 rfl (mj_enter (by decide) (Nat.le_of_ble_eq_true rfl) ?_) rfl (Nat.le_of_ble_eq_true rfl) (Nat.le_of_ble_eq_true rfl) (Nat.le_of_ble_eq_true rfl) (hst := rfl) (fun _ _ _ h => h)
  refine mv_aload_n d_TrustDeskModel_isWell_0 rfl rfl ?_
  obtain ⟨v3, q2⟩ := tm_atI I0 h_o0 (k := 19) rfl
  refine tr_getK q2 d_TrustDeskModel_isWell_1 f_TrustDeskModel_224_13 ?_
  have := yR.f (k := 19) q2 rfl
  have := tm_rv q2
  refine mv_if_neZ (tgt := 11) (a := v3.toInt) d_TrustDeskModel_isWell_4 (by decide) rfl (fun b4 => ?_) (fun b4 => ?_)
  · refine mv_iconst (v := 0) d_TrustDeskModel_isWell_11 (by decide) ?_
    refine mv_iret d_TrustDeskModel_isWell_12 rfl (by decide) ?_
    refine mv_if_ne_f (tgt := 8) d_TrustDeskModel_factor_4 (by decide) (by decide) ?_
    exact mv_vret d_TrustDeskModel_factor_7 rfl ⟨_, I0, rfl, yR, yE0.vac (by have := yR.1 15 _ _ rfl; have := yR.1 16 _ _ rfl; have := yR.1 19 _ _ rfl; have := yE0.f yS; omega) 1 0, (by have := yR.1 15 _ _ rfl; have := yR.1 16 _ _ rfl; have := yR.1 19 _ _ rfl; have := yE0.f yS; omega), yO⟩
  · exfalso
    have := yR.1 15 _ _ rfl; have := yR.1 16 _ _ rfl; have := yR.1 19 _ _ rfl; have := yE0.f yS; omega
theorem lV_TrustDeskModel_294 : mj_lV "TrustDeskModel" 294 kY_TrustDeskModel_factor 0 := ⟨⟨(mj_in1 (List.mem_of_getElem? (i := 1741) (by decide +kernel)) rfl), (mj_in1 (List.mem_of_getElem? (i := 10) (by decide +kernel)) rfl), (mj_in1 (List.mem_of_getElem? (i := 1744) (by decide +kernel)) rfl), by decide, rfl, by decide⟩, (mj_in1 (List.mem_of_getElem? (i := 1743) (by decide +kernel)) rfl), (mj_in (List.mem_append_left _ (List.mem_of_getElem? (i := 99) (by decide +kernel))) rfl)⟩
theorem d_TrustDeskModel_product_4 : decode kY_TrustDeskModel_product.2.1 4 = .ok (.aload_n 0, 1) := by decide +kernel
theorem d_TrustDeskModel_product_5 : decode kY_TrustDeskModel_product.2.1 5 = .ok (.invokevirtual 230, 3) := by decide +kernel
theorem d_TrustDeskModel_product_8 : decode kY_TrustDeskModel_product.2.1 8 = .ok (.ifCond .eq 29, 3) := by decide +kernel
theorem d_TrustDeskModel_product_37 : decode kY_TrustDeskModel_product.2.1 37 = .ok (.return_, 1) := by decide +kernel
def w_TrustDeskModel_product_q0_x : List Nat := []
set_option maxHeartbeats 100000000 in theorem tc_TrustDeskModel_product_q0_x {g : mj_G} {l : Launch} {d : Nat} {T0 : tm_H} {M0 : mj_M} {n0 x9 : Nat} {o0 : Nat} (h_o0 : T0 o0 = some (0, 13, 0)) (yR : rI M0 o0) (yT : rT M0 o0) (yS : rv M0 o0 19 = 0 → ra M0 o0 5 44 ≤ rv M0 o0 16) (yL : rv M0 o0 19 ≠ 0 ∨ (5 ≤ rv M0 o0 22 ∧ rv M0 o0 22 ≤ 4)) {pb : Nat → Int} {pn : Nat} {pa : Int} {ps : p_S} (yO : pO M0 o0 pb pn pa ps) (I0 : tm_I tm_FT (tm_in w_TrustDeskModel_product_q0_x) x9 T0 M0 n0 T0 M0 n0) : mj_Met g l kY_TrustDeskModel_product (d + 2) [.ref o0] M0 n0 0 0 (tm_Q tm_FT (tm_in w_TrustDeskModel_product_q0_x) x9 T0 M0 n0 (fun r _ M => r = none ∧ rI M o0 ∧ (rE M0 M o0 1 0) ∧ (rv M o0 19 = 0 → rv M o0 22 = rv M0 o0 22) ∧ (pO M o0 pb pn pa ps))) := by
  refine mj_enter (by decide) (Nat.le_of_ble_eq_true rfl) ?_
  have yE0 := rE.rf yT
  have := yO.w
  refine mv_aload_n d_TrustDeskModel_product_0 rfl rfl ?_
  obtain ⟨_, b7, -⟩ := I0.1 _ _ h_o0
  refine mv_callV (kc' := 0) (ks' := 0) (As := []) (st9 := [.ref o0]) d_TrustDeskModel_product_1 lV_TrustDeskModel_294 b7 rfl (tc_TrustDeskModel_factor_q0_x (d := d) (x9 := x9) (o0 := o0) h_o0 yR yE0.1 (by have := yR.1 15 _ _ rfl; have := yR.1 16 _ _ rfl; have := yR.1 19 _ _ rfl; have := yE0.f yS; omega) (by have := yR.1 15 _ _ rfl; have := yR.1 16 _ _ rfl; have := yR.1 19 _ _ rfl; have := yE0.f yS; omega) yO I0.start) rfl (Nat.le_of_ble_eq_true rfl) (Nat.le_of_ble_eq_true rfl) (Nat.le_of_ble_eq_true rfl) (hst := rfl) (fun b1r M2 n3 b1 => ?_)
  obtain ⟨T4, J5, rfl, R8, f9, f10, f11⟩ := b1
  have I6 := I0.call J5 (tm_sub (by decide)) (Or.inl rfl)
  have t12 := J5.up h_o0
  have z13 := (rv_c I0 J5 (I0.up h_o0) (k := 16) rfl)
  have z14 := (rv_c I0 J5 (I0.up h_o0) (k := 17) rfl)
  have z15 := (rv_c I0 J5 (I0.up h_o0) (k := 19) rfl)
  have z16 := (rv_c I0 J5 (I0.up h_o0) (k := 22) rfl)
  have E17 : rE M0 M2 o0 1 0 := yE0.trans f9 (by decide) (yR.2 5 _ _ rfl 44).1 (by decide) (by decide)
  have := f9.w
  have := f11.w
  have L4_18 : ∀ (k : Nat) (T_18 : tm_H) (M_18 : mj_M) (n_18 : Nat), tm_I tm_FT (tm_in w_TrustDeskModel_product_q0_x) x9 T0 M0 n0 T_18 M_18 n_18 → T_18 o0 = some (0, 13, 0) → (rv M_18 o0 19 = 0 → rv M_18 o0 22 = rv M0 o0 22) → (rI M_18 o0) → (rE M0 M_18 o0 1 0) → (∃ s1 : p_S, pO M_18 o0 pb pn pa s1 ∧ s1 = ps) → 5 * (401 - rv M_18 o0 16) - rv M_18 o0 19 < (k : Int) → mj_V g l kY_TrustDeskModel_product (d + 2) 4 [(0, .ref o0)] [] M_18 n_18 0 0 (tm_Q tm_FT (tm_in w_TrustDeskModel_product_q0_x) x9 T0 M0 n0 (fun r _ M => r = none ∧ rI M o0 ∧ (rE M0 M o0 1 0) ∧ (rv M o0 19 = 0 → rv M o0 22 = rv M0 o0 22) ∧ (pO M o0 pb pn pa ps))) := by
    intro k18
    induction k18 with
    | zero =>
      intro T_18 M_18 n_18 I_18 h_q0_18 iv0_18 kKR_18 kKE_18 kKT9_18 hk18
      have := kKR_18.1 15 _ _ rfl
      have := kKR_18.1 16 _ _ rfl
      have := kKR_18.1 19 _ _ rfl
      exfalso; omega
    | succ k18 ih18 =>
      intro T_18 M_18 n_18 I_18 h_q0_18 iv0_18 kKR_18 kKE_18 kKT9_18 hk18
      have := kKE_18.f yS
      obtain ⟨s19, Z920, e21⟩ := kKT9_18
      have := Z920.w
      refine mv_aload_n d_TrustDeskModel_product_4 rfl rfl ?_
      obtain ⟨_, b22, -⟩ := I_18.1 _ _ h_q0_18
      refine mv_callV (kc1 := 0) (ks1 := 0) (kc' := 0) (ks' := 0) (As := []) (st9 := [.ref o0]) d_TrustDeskModel_product_5 lV_TrustDeskModel_230 b22 rfl (mj_enter (by decide) (Nat.le_of_ble_eq_true rfl) ?_) rfl (Nat.le_of_ble_eq_true rfl) (Nat.le_of_ble_eq_true rfl) (Nat.le_of_ble_eq_true rfl) (hst := rfl) (fun _ _ _ h => h)
      refine mv_aload_n d_TrustDeskModel_isWell_0 rfl rfl ?_
      obtain ⟨v24, q23⟩ := tm_atI I_18 h_q0_18 (k := 19) rfl
      refine tr_getK q23 d_TrustDeskModel_isWell_1 f_TrustDeskModel_224_13 ?_
      have := kKR_18.f (k := 19) q23 rfl
      have := tm_rv q23
      refine mv_if_neZ (tgt := 11) (a := v24.toInt) d_TrustDeskModel_isWell_4 (by decide) rfl (fun b25 => ?_) (fun b25 => ?_)
      · refine mv_iconst (v := 0) d_TrustDeskModel_isWell_11 (by decide) ?_
        refine mv_iret d_TrustDeskModel_isWell_12 rfl (by decide) ?_
        refine mv_if_eq_t (tgt := 37) d_TrustDeskModel_product_8 (by decide) (by decide) ?_
        exact mv_vret d_TrustDeskModel_product_37 rfl ⟨_, I_18, rfl, kKR_18, kKE_18, (by have := kKR_18.1 15 _ _ rfl; have := kKR_18.1 16 _ _ rfl; have := kKR_18.1 19 _ _ rfl; have := kKE_18.f yS; omega), (by rw [← e21]; exact Z920)⟩
      · exfalso
        have := kKR_18.1 15 _ _ rfl; have := kKR_18.1 16 _ _ rfl; have := kKR_18.1 19 _ _ rfl; have := kKE_18.f yS; omega
  have T26 : ∃ s1 : p_S, pO M2 o0 pb pn pa s1 ∧ s1 = ps := ⟨ps, f11, rfl⟩
  exact mv_less (Nat.zero_le _) (Nat.zero_le _) (L4_18 4294967296 T4 M2 n3 I6 t12 (by have := R8.1 15 _ _ rfl; have := R8.1 16 _ _ rfl; have := R8.1 19 _ _ rfl; have := E17.f yS; first | omega | decide | exact fun h9 => absurd (by decide) h9) R8 E17 T26 (by have := R8.1 15 _ _ rfl; have := R8.1 16 _ _ rfl; have := R8.1 19 _ _ rfl; have := E17.f yS; omega))
theorem lV_TrustDeskModel_297 : mj_lV "TrustDeskModel" 297 kY_TrustDeskModel_product 0 := ⟨⟨(mj_in1 (List.mem_of_getElem? (i := 1737) (by decide +kernel)) rfl), (mj_in1 (List.mem_of_getElem? (i := 10) (by decide +kernel)) rfl), (mj_in1 (List.mem_of_getElem? (i := 1740) (by decide +kernel)) rfl), by decide, rfl, by decide⟩, (mj_in1 (List.mem_of_getElem? (i := 1739) (by decide +kernel)) rfl), (mj_in (List.mem_append_left _ (List.mem_of_getElem? (i := 98) (by decide +kernel))) rfl)⟩
theorem d_TrustDeskModel_sum_4 : decode kY_TrustDeskModel_sum.2.1 4 = .ok (.aload_n 0, 1) := by decide +kernel
theorem d_TrustDeskModel_sum_5 : decode kY_TrustDeskModel_sum.2.1 5 = .ok (.invokevirtual 230, 3) := by decide +kernel
theorem d_TrustDeskModel_sum_8 : decode kY_TrustDeskModel_sum.2.1 8 = .ok (.ifCond .eq 53, 3) := by decide +kernel
theorem d_TrustDeskModel_sum_61 : decode kY_TrustDeskModel_sum.2.1 61 = .ok (.return_, 1) := by decide +kernel
def w_TrustDeskModel_sum_q0_x : List Nat := []
set_option maxHeartbeats 100000000 in theorem tc_TrustDeskModel_sum_q0_x {g : mj_G} {l : Launch} {d : Nat} {T0 : tm_H} {M0 : mj_M} {n0 x9 : Nat} {o0 : Nat} (h_o0 : T0 o0 = some (0, 13, 0)) (yR : rI M0 o0) (yT : rT M0 o0) (yS : rv M0 o0 19 = 0 → ra M0 o0 5 44 ≤ rv M0 o0 16) (yL : rv M0 o0 19 ≠ 0 ∨ (5 ≤ rv M0 o0 22 ∧ rv M0 o0 22 ≤ 4)) {pb : Nat → Int} {pn : Nat} {pa : Int} {ps : p_S} (yO : pO M0 o0 pb pn pa ps) (I0 : tm_I tm_FT (tm_in w_TrustDeskModel_sum_q0_x) x9 T0 M0 n0 T0 M0 n0) : mj_Met g l kY_TrustDeskModel_sum (d + 3) [.ref o0] M0 n0 0 0 (tm_Q tm_FT (tm_in w_TrustDeskModel_sum_q0_x) x9 T0 M0 n0 (fun r _ M => r = none ∧ rI M o0 ∧ (rE M0 M o0 1 0) ∧ (rv M o0 19 = 0 → rv M o0 22 = rv M0 o0 22) ∧ (pO M o0 pb pn pa ps))) := by
  refine mj_enter (by decide) (Nat.le_of_ble_eq_true rfl) ?_
  have yE0 := rE.rf yT
  have := yO.w
  refine mv_aload_n d_TrustDeskModel_sum_0 rfl rfl ?_
  obtain ⟨_, b7, -⟩ := I0.1 _ _ h_o0
  refine mv_callV (kc' := 0) (ks' := 0) (As := []) (st9 := [.ref o0]) d_TrustDeskModel_sum_1 lV_TrustDeskModel_297 b7 rfl (tc_TrustDeskModel_product_q0_x (d := d) (x9 := x9) (o0 := o0) h_o0 yR yE0.1 (by have := yR.1 15 _ _ rfl; have := yR.1 16 _ _ rfl; have := yR.1 19 _ _ rfl; have := yE0.f yS; omega) (by have := yR.1 15 _ _ rfl; have := yR.1 16 _ _ rfl; have := yR.1 19 _ _ rfl; have := yE0.f yS; omega) yO I0.start) rfl (Nat.le_of_ble_eq_true rfl) (Nat.le_of_ble_eq_true rfl) (Nat.le_of_ble_eq_true rfl) (hst := rfl) (fun b1r M2 n3 b1 => ?_)
  obtain ⟨T4, J5, rfl, R8, f9, f10, f11⟩ := b1
  have I6 := I0.call J5 (tm_sub (by decide)) (Or.inl rfl)
  have t12 := J5.up h_o0
  have z13 := (rv_c I0 J5 (I0.up h_o0) (k := 16) rfl)
  have z14 := (rv_c I0 J5 (I0.up h_o0) (k := 17) rfl)
  have z15 := (rv_c I0 J5 (I0.up h_o0) (k := 19) rfl)
  have z16 := (rv_c I0 J5 (I0.up h_o0) (k := 22) rfl)
  have E17 : rE M0 M2 o0 1 0 := yE0.trans f9 (by decide) (yR.2 5 _ _ rfl 44).1 (by decide) (by decide)
  have := f9.w
  have := f11.w
  have L4_18 : ∀ (k : Nat) (T_18 : tm_H) (M_18 : mj_M) (n_18 : Nat), tm_I tm_FT (tm_in w_TrustDeskModel_sum_q0_x) x9 T0 M0 n0 T_18 M_18 n_18 → T_18 o0 = some (0, 13, 0) → (rv M_18 o0 19 = 0 → rv M_18 o0 22 = rv M0 o0 22) → (rI M_18 o0) → (rE M0 M_18 o0 1 0) → (∃ s1 : p_S, pO M_18 o0 pb pn pa s1 ∧ s1 = ps) → 5 * (401 - rv M_18 o0 16) - rv M_18 o0 19 < (k : Int) → mj_V g l kY_TrustDeskModel_sum (d + 3) 4 [(0, .ref o0)] [] M_18 n_18 0 0 (tm_Q tm_FT (tm_in w_TrustDeskModel_sum_q0_x) x9 T0 M0 n0 (fun r _ M => r = none ∧ rI M o0 ∧ (rE M0 M o0 1 0) ∧ (rv M o0 19 = 0 → rv M o0 22 = rv M0 o0 22) ∧ (pO M o0 pb pn pa ps))) := by
    intro k18
    induction k18 with
    | zero =>
      intro T_18 M_18 n_18 I_18 h_q0_18 iv0_18 kKR_18 kKE_18 kKT9_18 hk18
      have := kKR_18.1 15 _ _ rfl
      have := kKR_18.1 16 _ _ rfl
      have := kKR_18.1 19 _ _ rfl
      exfalso; omega
    | succ k18 ih18 =>
      intro T_18 M_18 n_18 I_18 h_q0_18 iv0_18 kKR_18 kKE_18 kKT9_18 hk18
      have := kKE_18.f yS
      obtain ⟨s19, Z920, e21⟩ := kKT9_18
      have := Z920.w
      refine mv_aload_n d_TrustDeskModel_sum_4 rfl rfl ?_
      obtain ⟨_, b22, -⟩ := I_18.1 _ _ h_q0_18
      refine mv_callV (kc1 := 0) (ks1 := 0) (kc' := 0) (ks' := 0) (As := []) (st9 := [.ref o0]) d_TrustDeskModel_sum_5 lV_TrustDeskModel_230 b22 rfl (mj_enter (by decide) (Nat.le_of_ble_eq_true rfl) ?_) rfl (Nat.le_of_ble_eq_true rfl) (Nat.le_of_ble_eq_true rfl) (Nat.le_of_ble_eq_true rfl) (hst := rfl) (fun _ _ _ h => h)
      refine mv_aload_n d_TrustDeskModel_isWell_0 rfl rfl ?_
      obtain ⟨v24, q23⟩ := tm_atI I_18 h_q0_18 (k := 19) rfl
      refine tr_getK q23 d_TrustDeskModel_isWell_1 f_TrustDeskModel_224_13 ?_
      have := kKR_18.f (k := 19) q23 rfl
      have := tm_rv q23
      refine mv_if_neZ (tgt := 11) (a := v24.toInt) d_TrustDeskModel_isWell_4 (by decide) rfl (fun b25 => ?_) (fun b25 => ?_)
      · refine mv_iconst (v := 0) d_TrustDeskModel_isWell_11 (by decide) ?_
        refine mv_iret d_TrustDeskModel_isWell_12 rfl (by decide) ?_
        refine mv_if_eq_t (tgt := 61) d_TrustDeskModel_sum_8 (by decide) (by decide) ?_
        exact mv_vret d_TrustDeskModel_sum_61 rfl ⟨_, I_18, rfl, kKR_18, kKE_18, (by have := kKR_18.1 15 _ _ rfl; have := kKR_18.1 16 _ _ rfl; have := kKR_18.1 19 _ _ rfl; have := kKE_18.f yS; omega), (by rw [← e21]; exact Z920)⟩
      · exfalso
        have := kKR_18.1 15 _ _ rfl; have := kKR_18.1 16 _ _ rfl; have := kKR_18.1 19 _ _ rfl; have := kKE_18.f yS; omega
  have T26 : ∃ s1 : p_S, pO M2 o0 pb pn pa s1 ∧ s1 = ps := ⟨ps, f11, rfl⟩
  exact mv_less (Nat.zero_le _) (Nat.zero_le _) (L4_18 4294967296 T4 M2 n3 I6 t12 (by have := R8.1 15 _ _ rfl; have := R8.1 16 _ _ rfl; have := R8.1 19 _ _ rfl; have := E17.f yS; first | omega | decide | exact fun h9 => absurd (by decide) h9) R8 E17 T26 (by have := R8.1 15 _ _ rfl; have := R8.1 16 _ _ rfl; have := R8.1 19 _ _ rfl; have := E17.f yS; omega))
theorem lV_TrustDeskModel_288 : mj_lV "TrustDeskModel" 288 kY_TrustDeskModel_sum 0 := ⟨⟨(mj_in1 (List.mem_of_getElem? (i := 1733) (by decide +kernel)) rfl), (mj_in1 (List.mem_of_getElem? (i := 10) (by decide +kernel)) rfl), (mj_in1 (List.mem_of_getElem? (i := 1736) (by decide +kernel)) rfl), by decide, rfl, by decide⟩, (mj_in1 (List.mem_of_getElem? (i := 1735) (by decide +kernel)) rfl), (mj_in (List.mem_append_left _ (List.mem_of_getElem? (i := 97) (by decide +kernel))) rfl)⟩
theorem d_TrustDeskModel_factor_94 : decode kY_TrustDeskModel_factor.2.1 94 = .ok (.aload_n 0, 1) := by decide +kernel
theorem d_TrustDeskModel_factor_95 : decode kY_TrustDeskModel_factor.2.1 95 = .ok (.bipush 41, 2) := by decide +kernel
theorem d_TrustDeskModel_factor_97 : decode kY_TrustDeskModel_factor.2.1 97 = .ok (.invokevirtual 291, 3) := by decide +kernel
theorem lV_TrustDeskModel_291 : mj_lV "TrustDeskModel" 291 kY_TrustDeskModel_wantSign 1 := ⟨⟨(mj_in1 (List.mem_of_getElem? (i := 1725) (by decide +kernel)) rfl), (mj_in1 (List.mem_of_getElem? (i := 10) (by decide +kernel)) rfl), (mj_in1 (List.mem_of_getElem? (i := 1728) (by decide +kernel)) rfl), by decide, rfl, by decide⟩, (mj_in1 (List.mem_of_getElem? (i := 1727) (by decide +kernel)) rfl), (mj_in (List.mem_append_left _ (List.mem_of_getElem? (i := 95) (by decide +kernel))) rfl)⟩
theorem d_TrustDeskModel_factor_100 : decode kY_TrustDeskModel_factor.2.1 100 = .ok (.aload_n 0, 1) := by decide +kernel
theorem d_TrustDeskModel_factor_101 : decode kY_TrustDeskModel_factor.2.1 101 = .ok (.dup, 1) := by decide +kernel
theorem d_TrustDeskModel_factor_102 : decode kY_TrustDeskModel_factor.2.1 102 = .ok (.getfield 276, 3) := by decide +kernel
theorem d_TrustDeskModel_factor_105 : decode kY_TrustDeskModel_factor.2.1 105 = .ok (.iconst 1, 1) := by decide +kernel
theorem d_TrustDeskModel_factor_106 : decode kY_TrustDeskModel_factor.2.1 106 = .ok (.isub, 1) := by decide +kernel
theorem d_TrustDeskModel_factor_107 : decode kY_TrustDeskModel_factor.2.1 107 = .ok (.putfield 276, 3) := by decide +kernel
theorem d_TrustDeskModel_factor_110 : decode kY_TrustDeskModel_factor.2.1 110 = .ok (.goto 8, 3) := by decide +kernel
theorem d_TrustDeskModel_factor_39 : decode kY_TrustDeskModel_factor.2.1 39 = .ok (.aload_n 0, 1) := by decide +kernel
theorem d_TrustDeskModel_factor_40 : decode kY_TrustDeskModel_factor.2.1 40 = .ok (.invokevirtual 282, 3) := by decide +kernel
theorem lV_TrustDeskModel_282 : mj_lV "TrustDeskModel" 282 kY_TrustDeskModel_name 0 := ⟨⟨(mj_in1 (List.mem_of_getElem? (i := 1749) (by decide +kernel)) rfl), (mj_in1 (List.mem_of_getElem? (i := 10) (by decide +kernel)) rfl), (mj_in1 (List.mem_of_getElem? (i := 1752) (by decide +kernel)) rfl), by decide, rfl, by decide⟩, (mj_in1 (List.mem_of_getElem? (i := 1751) (by decide +kernel)) rfl), (mj_in (List.mem_append_left _ (List.mem_of_getElem? (i := 101) (by decide +kernel))) rfl)⟩
theorem d_TrustDeskModel_factor_43 : decode kY_TrustDeskModel_factor.2.1 43 = .ok (.istore_n 1, 1) := by decide +kernel
theorem d_TrustDeskModel_factor_44 : decode kY_TrustDeskModel_factor.2.1 44 = .ok (.iload_n 1, 1) := by decide +kernel
theorem d_TrustDeskModel_factor_45 : decode kY_TrustDeskModel_factor.2.1 45 = .ok (.iconst (-1), 1) := by decide +kernel
theorem d_TrustDeskModel_factor_46 : decode kY_TrustDeskModel_factor.2.1 46 = .ok (.if_icmp .ne 8, 3) := by decide +kernel
theorem d_TrustDeskModel_factor_54 : decode kY_TrustDeskModel_factor.2.1 54 = .ok (.aload_n 0, 1) := by decide +kernel
theorem d_TrustDeskModel_factor_55 : decode kY_TrustDeskModel_factor.2.1 55 = .ok (.sipush 10000, 3) := by decide +kernel
theorem d_TrustDeskModel_factor_58 : decode kY_TrustDeskModel_factor.2.1 58 = .ok (.iload_n 1, 1) := by decide +kernel
theorem d_TrustDeskModel_factor_59 : decode kY_TrustDeskModel_factor.2.1 59 = .ok (.iadd, 1) := by decide +kernel
theorem d_TrustDeskModel_factor_60 : decode kY_TrustDeskModel_factor.2.1 60 = .ok (.invokevirtual 279, 3) := by decide +kernel
theorem lV_TrustDeskModel_279 : mj_lV "TrustDeskModel" 279 kY_TrustDeskModel_emits 1 := ⟨⟨(mj_in1 (List.mem_of_getElem? (i := 1745) (by decide +kernel)) rfl), (mj_in1 (List.mem_of_getElem? (i := 10) (by decide +kernel)) rfl), (mj_in1 (List.mem_of_getElem? (i := 1748) (by decide +kernel)) rfl), by decide, rfl, by decide⟩, (mj_in1 (List.mem_of_getElem? (i := 1747) (by decide +kernel)) rfl), (mj_in (List.mem_append_left _ (List.mem_of_getElem? (i := 100) (by decide +kernel))) rfl)⟩
theorem d_TrustDeskModel_factor_63 : decode kY_TrustDeskModel_factor.2.1 63 = .ok (.aload_n 0, 1) := by decide +kernel
theorem d_TrustDeskModel_factor_64 : decode kY_TrustDeskModel_factor.2.1 64 = .ok (.invokevirtual 230, 3) := by decide +kernel
theorem d_TrustDeskModel_factor_67 : decode kY_TrustDeskModel_factor.2.1 67 = .ok (.ifCond .eq 7, 3) := by decide +kernel
theorem d_TrustDeskModel_factor_70 : decode kY_TrustDeskModel_factor.2.1 70 = .ok (.aload_n 0, 1) := by decide +kernel
theorem d_TrustDeskModel_factor_71 : decode kY_TrustDeskModel_factor.2.1 71 = .ok (.invokevirtual 237, 3) := by decide +kernel
theorem d_TrustDeskModel_factor_74 : decode kY_TrustDeskModel_factor.2.1 74 = .ok (.goto 44, 3) := by decide +kernel
theorem d_TrustDeskModel_factor_49 : decode kY_TrustDeskModel_factor.2.1 49 = .ok (.aload_n 0, 1) := by decide +kernel
theorem d_TrustDeskModel_factor_50 : decode kY_TrustDeskModel_factor.2.1 50 = .ok (.iconst 3, 1) := by decide +kernel
theorem d_TrustDeskModel_factor_51 : decode kY_TrustDeskModel_factor.2.1 51 = .ok (.invokevirtual 240, 3) := by decide +kernel
theorem d_TrustDeskModel_factor_16 : decode kY_TrustDeskModel_factor.2.1 16 = .ok (.aload_n 0, 1) := by decide +kernel
theorem d_TrustDeskModel_factor_17 : decode kY_TrustDeskModel_factor.2.1 17 = .ok (.aload_n 0, 1) := by decide +kernel
theorem d_TrustDeskModel_factor_18 : decode kY_TrustDeskModel_factor.2.1 18 = .ok (.getfield 201, 3) := by decide +kernel
theorem d_TrustDeskModel_factor_21 : decode kY_TrustDeskModel_factor.2.1 21 = .ok (.invokevirtual 279, 3) := by decide +kernel
theorem d_TrustDeskModel_factor_24 : decode kY_TrustDeskModel_factor.2.1 24 = .ok (.aload_n 0, 1) := by decide +kernel
theorem d_TrustDeskModel_factor_25 : decode kY_TrustDeskModel_factor.2.1 25 = .ok (.invokevirtual 237, 3) := by decide +kernel
theorem d_TrustDeskModel_factor_28 : decode kY_TrustDeskModel_factor.2.1 28 = .ok (.goto 90, 3) := by decide +kernel
def w_TrustDeskModel_factor_q1_x : List Nat := [1315, 1316, 1317, 1318, 1319, 1320, 1322, 20004, 20005]
set_option maxHeartbeats 100000000 in theorem tc_TrustDeskModel_factor_q1_x {g : mj_G} {l : Launch} {d : Nat} {T0 : tm_H} {M0 : mj_M} {n0 x9 : Nat} {o0 : Nat} (h_o0 : T0 o0 = some (0, 13, 0)) (yR : rI M0 o0) (yT : rT M0 o0) (yS : rv M0 o0 19 = 0 → ra M0 o0 5 44 ≤ rv M0 o0 16) (yL : rv M0 o0 19 ≠ 0 ∨ (4 ≤ rv M0 o0 22 ∧ rv M0 o0 22 ≤ 4)) {pb : Nat → Int} {pn : Nat} {pa : Int} {ps : p_S} (yO : pO M0 o0 pb pn pa ps) (I0 : tm_I tm_FT (tm_in w_TrustDeskModel_factor_q1_x) x9 T0 M0 n0 T0 M0 n0) : mj_Met g l kY_TrustDeskModel_factor (d + 6) [.ref o0] M0 n0 0 0 (tm_Q tm_FT (tm_in w_TrustDeskModel_factor_q1_x) x9 T0 M0 n0 (fun r _ M => r = none ∧ rI M o0 ∧ (rE M0 M o0 1 0) ∧ (rv M o0 19 = 0 → rv M o0 22 = rv M0 o0 22) ∧ (pO M o0 pb pn pa (p_fac pb pn pa (p_op pb pn pa 0) ps)))) := by
  refine mj_enter (by decide) (Nat.le_of_ble_eq_true rfl) ?_
  have yE0 := rE.rf yT
  have := yO.w
  refine mv_aload_n d_TrustDeskModel_factor_0 rfl rfl ?_
  obtain ⟨_, b1, -⟩ := I0.1 _ _ h_o0
  refine mv_callV (kc1 := 0) (ks1 := 0) (kc' := 0) (ks' := 0) (As := []) (st9 := [.ref o0]) d_TrustDeskModel_factor_1 lV_TrustDeskModel_230 b1 rfl (mj_enter (by decide) (Nat.le_of_ble_eq_true rfl) ?_) rfl (Nat.le_of_ble_eq_true rfl) (Nat.le_of_ble_eq_true rfl) (Nat.le_of_ble_eq_true rfl) (hst := rfl) (fun _ _ _ h => h)
  refine mv_aload_n d_TrustDeskModel_isWell_0 rfl rfl ?_
  obtain ⟨v3, q2⟩ := tm_atI I0 h_o0 (k := 19) rfl
  refine tr_getK q2 d_TrustDeskModel_isWell_1 f_TrustDeskModel_224_13 ?_
  have := yR.f (k := 19) q2 rfl
  have := tm_rv q2
  have := mz_hi v3
  refine mv_if_neZ (tgt := 11) (a := v3.toInt) d_TrustDeskModel_isWell_4 (by decide) rfl (fun b4 => ?_) (fun b4 => ?_)
  · refine mv_iconst (v := 0) d_TrustDeskModel_isWell_11 (by decide) ?_
    refine mv_iret d_TrustDeskModel_isWell_12 rfl (by decide) ?_
    refine mv_if_ne_f (tgt := 8) d_TrustDeskModel_factor_4 (by decide) (by decide) ?_
    exact mv_vret d_TrustDeskModel_factor_7 rfl ⟨_, I0, rfl, yR, yE0.vac (by have := yR.1 15 _ _ rfl; have := yR.1 16 _ _ rfl; have := yR.1 19 _ _ rfl; have := yE0.f yS; omega) 1 0, (by have := yR.1 15 _ _ rfl; have := yR.1 16 _ _ rfl; have := yR.1 19 _ _ rfl; have := yE0.f yS; omega), (by first | (rw [show p_fac pb pn pa (p_op pb pn pa 0) ps = ps from (by have hop : (p_op pb pn pa 0) ps = p_fl pb pn 4 ps := rfl; unfold p_fac; (try simp only [hop]); skip; ((repeat' (first | (with_reducible rfl) | split)) <;> (exfalso; omega)))]; exact yO) | (exfalso; have := yR.1 15 _ _ rfl; have := yR.1 16 _ _ rfl; have := yR.1 19 _ _ rfl; have := yE0.f yS; omega))⟩
  · refine mv_iconst (v := 1) d_TrustDeskModel_isWell_7 (by decide) ?_
    refine mv_goto (tgt := 12) d_TrustDeskModel_isWell_8 (by decide) ?_
    refine mv_iret d_TrustDeskModel_isWell_12 rfl (by decide) ?_
    refine mv_if_ne_t (tgt := 8) d_TrustDeskModel_factor_4 (by decide) (by decide) ?_
    refine mv_aload_n d_TrustDeskModel_factor_8 rfl rfl ?_
    obtain ⟨v6, q5⟩ := tm_atI I0 h_o0 (k := 17) rfl
    refine tr_getK q5 d_TrustDeskModel_factor_9 f_TrustDeskModel_198_13 ?_
    have := tm_rv q5
    refine mv_iconst (v := 2) d_TrustDeskModel_factor_12 (by decide) ?_
    have := mz_hi v6
    refine mv_icmp_neZ (tgt := 31) (a := v6.toInt) (b := 2) d_TrustDeskModel_factor_13 (by decide) rfl (by decide) (fun b7 => ?_) (fun b7 => ?_)
    · refine mv_aload_n d_TrustDeskModel_factor_31 rfl rfl ?_
      refine tr_getK (k := 17) q5 d_TrustDeskModel_factor_32 f_TrustDeskModel_198_13 ?_
      refine mv_iconst (v := 3) d_TrustDeskModel_factor_35 (by decide) ?_
      have := mz_hi v6
      refine mv_icmp_neZ (tgt := 77) (a := v6.toInt) (b := 3) d_TrustDeskModel_factor_36 (by decide) rfl (by decide) (fun b8 => ?_) (fun b8 => ?_)
      · refine mv_aload_n d_TrustDeskModel_factor_77 rfl rfl ?_
        refine mv_bipush (v := 40) d_TrustDeskModel_factor_78 (by decide) ?_
        obtain ⟨_, b9, -⟩ := I0.1 _ _ h_o0
        refine mv_callV (kc1 := 0) (ks1 := 0) (kc' := 0) (ks' := 0) (As := [.int 40]) (st9 := [.int 40, .ref o0]) d_TrustDeskModel_factor_80 lV_TrustDeskModel_234 b9 rfl (mj_enter (by decide) (Nat.le_of_ble_eq_true rfl) ?_) rfl (Nat.le_of_ble_eq_true rfl) (Nat.le_of_ble_eq_true rfl) (Nat.le_of_ble_eq_true rfl) (hst := rfl) (fun _ _ _ h => h)
        refine mv_aload_n d_TrustDeskModel_isSign_0 rfl rfl ?_
        refine tr_getK (k := 17) q5 d_TrustDeskModel_isSign_1 f_TrustDeskModel_198_13 ?_
        refine mv_iconst (v := 4) d_TrustDeskModel_isSign_4 (by decide) ?_
        have := mz_hi v6
        refine mv_icmp_neZ (tgt := 20) (a := v6.toInt) (b := 4) d_TrustDeskModel_isSign_5 (by decide) rfl (by decide) (fun b10 => ?_) (fun b10 => ?_)
        · refine mv_iconst (v := 0) d_TrustDeskModel_isSign_20 (by decide) ?_
          refine mv_iret d_TrustDeskModel_isSign_21 rfl (by decide) ?_
          refine mv_if_eq_t (tgt := 113) d_TrustDeskModel_factor_83 (by decide) (by decide) ?_
          refine mv_aload_n d_TrustDeskModel_factor_113 rfl rfl ?_
          refine mv_iconst (v := 1) d_TrustDeskModel_factor_114 (by decide) ?_
          obtain ⟨_, b17, -⟩ := I0.1 _ _ h_o0
          have : (1 : Int32).toInt = 1 := by decide
          refine mv_callV (kc' := 0) (ks' := 0) (As := [.int 1]) (st9 := [.int 1, .ref o0]) d_TrustDeskModel_factor_115 lV_TrustDeskModel_240 b17 rfl (tc_TrustDeskModel_fails_x (d := (d + 5)) (x9 := x9) (o0 := o0) (x1 := 1) h_o0 yR (by decide) yO I0.start) rfl (Nat.le_of_ble_eq_true rfl) (Nat.le_of_ble_eq_true rfl) (Nat.le_of_ble_eq_true rfl) (hst := rfl) (fun b11r M12 n13 b11 => ?_)
          obtain ⟨T14, J15, rfl, R18, f19, f20⟩ := b11
          have I16 := I0.call J15 (tm_sub (by decide)) (Or.inl rfl)
          have t21 := J15.up h_o0
          have z22 := (rv_c I0 J15 (I0.up h_o0) (k := 16) rfl)
          have z23 := (rv_c I0 J15 (I0.up h_o0) (k := 17) rfl)
          have z24 := (rv_c I0 J15 (I0.up h_o0) (k := 22) rfl)
          have E25 : rE M0 M12 o0 0 0 := yE0.fails (rE_hv I0 J15 (I0.up h_o0) 15 18 (by decide)) (rE_ha I0 J15 (I0.up h_o0) (by decide)) f19 0 0
          rw [show (1 : Int32).toInt = 1 from by decide] at f20
          obtain ⟨s26, e27⟩ : ∃ s9 : p_S, p_fl pb pn 1 ps = s9 := ⟨_, rfl⟩
          rw [e27] at f20
          have := f20.w
          have q28 := J15.keep h_o0 (by decide) q5
          exact mv_vret d_TrustDeskModel_factor_118 rfl ⟨_, I16, rfl, R18, E25.vac (by have := R18.1 15 _ _ rfl; have := R18.1 16 _ _ rfl; have := R18.1 19 _ _ rfl; have := E25.f yS; omega) 1 0, (by have := R18.1 15 _ _ rfl; have := R18.1 16 _ _ rfl; have := R18.1 19 _ _ rfl; have := E25.f yS; omega), (by first | (have := yO.n4 (by omega) (by omega); have := yO.n3 (by omega) (by omega); have := yO.n2 (by omega) (by omega); rw [show p_fac pb pn pa (p_op pb pn pa 0) ps = s26 from (by have hop : (p_op pb pn pa 0) ps = p_fl pb pn 4 ps := rfl; unfold p_fac; (try simp only [hop]); (try simp only [e27]); ((repeat' (first | (with_reducible rfl) | split)) <;> (exfalso; omega)))]; exact f20) | (exfalso; have := R18.1 15 _ _ rfl; have := R18.1 16 _ _ rfl; have := R18.1 19 _ _ rfl; have := E25.f yS; omega))⟩
        · refine mv_aload_n d_TrustDeskModel_isSign_8 rfl rfl ?_
          obtain ⟨v30, q29⟩ := tm_atI I0 h_o0 (k := 18) rfl
          refine tr_getK q29 d_TrustDeskModel_isSign_9 f_TrustDeskModel_201_13 ?_
          have := yR.f (k := 18) q29 rfl
          have := tm_rv q29
          refine mv_iload_n d_TrustDeskModel_isSign_12 rfl rfl ?_
          have := mz_hi v30
          refine mv_icmp_neZ (tgt := 20) (a := v30.toInt) (b := 40) d_TrustDeskModel_isSign_13 (by decide) rfl (by decide) (fun b31 => ?_) (fun b31 => ?_)
          · refine mv_iconst (v := 0) d_TrustDeskModel_isSign_20 (by decide) ?_
            refine mv_iret d_TrustDeskModel_isSign_21 rfl (by decide) ?_
            refine mv_if_eq_t (tgt := 113) d_TrustDeskModel_factor_83 (by decide) (by decide) ?_
            refine mv_aload_n d_TrustDeskModel_factor_113 rfl rfl ?_
            refine mv_iconst (v := 1) d_TrustDeskModel_factor_114 (by decide) ?_
            obtain ⟨_, b38, -⟩ := I0.1 _ _ h_o0
            have : (1 : Int32).toInt = 1 := by decide
            refine mv_callV (kc' := 0) (ks' := 0) (As := [.int 1]) (st9 := [.int 1, .ref o0]) d_TrustDeskModel_factor_115 lV_TrustDeskModel_240 b38 rfl (tc_TrustDeskModel_fails_x (d := (d + 5)) (x9 := x9) (o0 := o0) (x1 := 1) h_o0 yR (by decide) yO I0.start) rfl (Nat.le_of_ble_eq_true rfl) (Nat.le_of_ble_eq_true rfl) (Nat.le_of_ble_eq_true rfl) (hst := rfl) (fun b32r M33 n34 b32 => ?_)
            obtain ⟨T35, J36, rfl, R39, f40, f41⟩ := b32
            have I37 := I0.call J36 (tm_sub (by decide)) (Or.inl rfl)
            have t42 := J36.up h_o0
            have z43 := (rv_c I0 J36 (I0.up h_o0) (k := 16) rfl)
            have z44 := (rv_c I0 J36 (I0.up h_o0) (k := 17) rfl)
            have z45 := (rv_c I0 J36 (I0.up h_o0) (k := 22) rfl)
            have E46 : rE M0 M33 o0 0 0 := yE0.fails (rE_hv I0 J36 (I0.up h_o0) 15 18 (by decide)) (rE_ha I0 J36 (I0.up h_o0) (by decide)) f40 0 0
            rw [show (1 : Int32).toInt = 1 from by decide] at f41
            obtain ⟨s47, e48⟩ : ∃ s9 : p_S, p_fl pb pn 1 ps = s9 := ⟨_, rfl⟩
            rw [e48] at f41
            have := f41.w
            have q49 := J36.keep h_o0 (by decide) q5
            have q50 := J36.keep h_o0 (by decide) q29
            exact mv_vret d_TrustDeskModel_factor_118 rfl ⟨_, I37, rfl, R39, E46.vac (by have := R39.1 15 _ _ rfl; have := R39.1 16 _ _ rfl; have := R39.1 19 _ _ rfl; have := E46.f yS; omega) 1 0, (by have := R39.1 15 _ _ rfl; have := R39.1 16 _ _ rfl; have := R39.1 19 _ _ rfl; have := E46.f yS; omega), (by first | (have := yO.s4 (by omega) (by omega); rw [show p_fac pb pn pa (p_op pb pn pa 0) ps = s47 from (by have hop : (p_op pb pn pa 0) ps = p_fl pb pn 4 ps := rfl; unfold p_fac; (try simp only [hop]); (try simp only [e48]); ((repeat' (first | (with_reducible rfl) | split)) <;> (exfalso; omega)))]; exact f41) | (exfalso; have := R39.1 15 _ _ rfl; have := R39.1 16 _ _ rfl; have := R39.1 19 _ _ rfl; have := E46.f yS; omega))⟩
          · refine mv_iconst (v := 1) d_TrustDeskModel_isSign_16 (by decide) ?_
            refine mv_goto (tgt := 21) d_TrustDeskModel_isSign_17 (by decide) ?_
            refine mv_iret d_TrustDeskModel_isSign_21 rfl (by decide) ?_
            refine mv_if_eq_f (tgt := 113) d_TrustDeskModel_factor_83 (by decide) (by decide) ?_
            refine mv_aload_n d_TrustDeskModel_factor_86 rfl rfl ?_
            obtain ⟨_, b57, -⟩ := I0.1 _ _ h_o0
            refine mv_callV (kc' := 0) (ks' := 0) (As := []) (st9 := [.ref o0]) d_TrustDeskModel_factor_87 lV_TrustDeskModel_285 b57 rfl (tc_TrustDeskModel_opens_x (d := (d + 3)) (x9 := x9) (o0 := o0) h_o0 yR yE0.1 (by have := yR.1 15 _ _ rfl; have := yR.1 16 _ _ rfl; have := yR.1 19 _ _ rfl; have := yE0.f yS; omega) (by have := yR.1 15 _ _ rfl; have := yR.1 16 _ _ rfl; have := yR.1 19 _ _ rfl; have := yE0.f yS; omega) (by have := yR.1 15 _ _ rfl; have := yR.1 16 _ _ rfl; have := yR.1 19 _ _ rfl; have := yE0.f yS; omega) (by have := yR.1 15 _ _ rfl; have := yR.1 16 _ _ rfl; have := yR.1 19 _ _ rfl; have := yE0.f yS; omega) yO I0.start) rfl (Nat.le_of_ble_eq_true rfl) (Nat.le_of_ble_eq_true rfl) (Nat.le_of_ble_eq_true rfl) (hst := rfl) (fun b51r M52 n53 b51 => ?_)
            obtain ⟨T54, J55, rfl, R58, f59, f60, f61⟩ := b51
            have I56 := I0.call J55 (tm_sub (by decide)) (Or.inl rfl)
            have t62 := J55.up h_o0
            have E63 : rE M0 M52 o0 0 1 := yE0.trans f59 (by decide) (yR.2 5 _ _ rfl 44).1 (by decide) (by decide)
            have := f59.w
            rw [if_pos (by have := yR.1 15 _ _ rfl; have := yR.1 16 _ _ rfl; have := yR.1 19 _ _ rfl; have := yE0.f yS; omega)] at f61
            obtain ⟨s64, e65⟩ : ∃ s9 : p_S, p_fl pb pn 4 ps = s9 := ⟨_, rfl⟩
            rw [e65] at f61
            have := f61.w
            refine mv_aload_n d_TrustDeskModel_factor_90 rfl rfl ?_
            obtain ⟨_, b72, -⟩ := I56.1 _ _ t62
            refine mv_callV (kc' := 0) (ks' := 0) (As := []) (st9 := [.ref o0]) d_TrustDeskModel_factor_91 lV_TrustDeskModel_288 b72 rfl (tc_TrustDeskModel_sum_q0_x (d := (d + 2)) (x9 := x9) (o0 := o0) t62 R58 E63.1 (by have := R58.1 15 _ _ rfl; have := R58.1 16 _ _ rfl; have := R58.1 19 _ _ rfl; have := E63.f yS; omega) (by have := R58.1 15 _ _ rfl; have := R58.1 16 _ _ rfl; have := R58.1 19 _ _ rfl; have := E63.f yS; omega) f61 I56.start) rfl (Nat.le_of_ble_eq_true rfl) (Nat.le_of_ble_eq_true rfl) (Nat.le_of_ble_eq_true rfl) (hst := rfl) (fun b66r M67 n68 b66 => ?_)
            obtain ⟨T69, J70, rfl, R73, f74, f75, f76⟩ := b66
            have I71 := I56.call J70 (tm_sub (by decide)) (Or.inl rfl)
            have t77 := J70.up t62
            have z78 := (rv_c I56 J70 (I56.up h_o0) (k := 16) rfl)
            have z79 := (rv_c I56 J70 (I56.up h_o0) (k := 17) rfl)
            have z80 := (rv_c I56 J70 (I56.up h_o0) (k := 19) rfl)
            have z81 := (rv_c I56 J70 (I56.up h_o0) (k := 22) rfl)
            have E82 : rE M0 M67 o0 1 1 := E63.trans f74 (by decide) (yR.2 5 _ _ rfl 44).1 (by decide) (by decide)
            have := f74.w
            have := f76.w
            refine mv_aload_n d_TrustDeskModel_factor_94 rfl rfl ?_
            refine mv_bipush (v := 41) d_TrustDeskModel_factor_95 (by decide) ?_
            obtain ⟨_, b89, -⟩ := I71.1 _ _ t77
            have : (41 : Int32).toInt = 41 := by decide
            refine mv_callV (kc' := 0) (ks' := 0) (As := [.int 41]) (st9 := [.int 41, .ref o0]) d_TrustDeskModel_factor_97 lV_TrustDeskModel_291 b89 rfl (tc_TrustDeskModel_wantSign_x (d := (d + 3)) (x9 := x9) (o0 := o0) (x1 := 41) t77 R73 E82.1 (by have := R73.1 15 _ _ rfl; have := R73.1 16 _ _ rfl; have := R73.1 19 _ _ rfl; have := E82.f yS; omega) (by decide) f76 I71.start) rfl (Nat.le_of_ble_eq_true rfl) (Nat.le_of_ble_eq_true rfl) (Nat.le_of_ble_eq_true rfl) (hst := rfl) (fun b83r M84 n85 b83 => ?_)
            obtain ⟨T86, J87, rfl, R90, f91, f92⟩ := b83
            have I88 := I71.call J87 (tm_sub (by decide)) (Or.inl rfl)
            have t93 := J87.up t77
            have z94 := (rv_c I71 J87 (I71.up h_o0) (k := 22) rfl).trans z81
            have E95 : rE M0 M84 o0 1 2 := E82.trans f91 (by decide) (yR.2 5 _ _ rfl 44).1 (by decide) (by decide)
            have := f91.w
            rw [show (41 : Int32).toInt = 41 from by decide] at f92
            obtain ⟨s96, e97⟩ : ∃ s9 : p_S, p_sg pb pn 41 s64 = s9 := ⟨_, rfl⟩
            rw [e97] at f92
            have := f92.w
            clear z81
            refine mv_aload_n d_TrustDeskModel_factor_100 rfl rfl ?_
            refine mv_dup d_TrustDeskModel_factor_101 rfl ?_
            obtain ⟨v99, q98⟩ := tm_atI I88 t93 (k := 22) rfl
            refine tr_getK q98 d_TrustDeskModel_factor_102 f_TrustDeskModel_276_13 ?_
            have := (tm_rv q98).symm.trans z94
            have := tm_rv q98
            refine mv_iconst (v := 1) d_TrustDeskModel_factor_105 (by decide) ?_
            refine mv_isub d_TrustDeskModel_factor_106 ?_
            have : rv M84 o0 19 = 0 → (v99 - 1 : Int32).toInt = v99.toInt - 1 := fun h9 => mz_sub2 rfl (by decide) (by omega) (by omega)
            refine tr_putR (k := 22) I88 R90 t93 rfl ⟨_, rfl⟩ (fun _ h => by cases h) rfl (fun lo hi h => by cases h) (Or.inl (by decide)) d_TrustDeskModel_factor_107 p_TrustDeskModel_276_13 rfl rfl (fun M100 I101 q102 K103 R104 A105 V106 => ?_)
            have z107 := (V106 16 (by decide))
            have z108 := (V106 17 (by decide))
            have z109 := (V106 19 (by decide))
            have z110 : rv M100 o0 22 = (v99 - 1).toInt := tm_rv q102
            have E111 : rE M0 M100 o0 1 2 := E95.same (fun k h1 h2 => V106 k (by omega)) (fun k h1 h2 => A105 k (by omega))
            have Z9112 : pO M100 o0 pb pn pa s96 := f92.same (fun k h1 h2 => V106 k (by omega)) (V106 23 (by decide)) (A105 13 (by decide))
            refine mv_goto (tgt := 118) d_TrustDeskModel_factor_110 (by decide) ?_
            exact mv_vret d_TrustDeskModel_factor_118 rfl ⟨_, I101, rfl, R104, E111.less (by decide), (by have := R104.1 15 _ _ rfl; have := R104.1 16 _ _ rfl; have := R104.1 19 _ _ rfl; have := E111.f yS; omega), (by first | (have := yO.s4 (by omega) (by omega); rw [show p_sg pb pn 41 s64 = s64 from p_sg_Z _ (by omega)] at e97; rw [show p_fac pb pn pa (p_op pb pn pa 0) ps = s96 from (by have hop : (p_op pb pn pa 0) ps = p_fl pb pn 4 ps := rfl; unfold p_fac; (try simp only [hop]); (try simp only [e65, e97]); ((repeat' (first | (with_reducible rfl) | split)) <;> (exfalso; omega)))]; exact Z9112) | (exfalso; have := R104.1 15 _ _ rfl; have := R104.1 16 _ _ rfl; have := R104.1 19 _ _ rfl; have := E111.f yS; omega))⟩
      · refine mv_aload_n d_TrustDeskModel_factor_39 rfl rfl ?_
        obtain ⟨_, b119, -⟩ := I0.1 _ _ h_o0
        refine mv_callV (kc' := 0) (ks' := 0) (As := []) (st9 := [.ref o0]) d_TrustDeskModel_factor_40 lV_TrustDeskModel_282 b119 rfl (tc_TrustDeskModel_name_x (d := d) (x9 := x9) (o0 := o0) h_o0 yR (by have := yR.1 15 _ _ rfl; have := yR.1 16 _ _ rfl; have := yR.1 19 _ _ rfl; have := yE0.f yS; omega) yO I0.start) rfl (Nat.le_of_ble_eq_true rfl) (Nat.le_of_ble_eq_true rfl) (Nat.le_of_ble_eq_true rfl) (hst := rfl) (fun b113r M114 n115 b113 => ?_)
        obtain ⟨T116, J117, v120, rfl, R121, f122, f123⟩ := b113
        have I118 := I0.call J117 (tm_sub (by decide)) (Or.inl rfl)
        have t124 := J117.up h_o0
        have z125 := (rv_c I0 J117 (I0.up h_o0) (k := 16) rfl)
        have z126 := (rv_c I0 J117 (I0.up h_o0) (k := 17) rfl)
        have z127 := (rv_c I0 J117 (I0.up h_o0) (k := 19) rfl)
        have z128 := (rv_c I0 J117 (I0.up h_o0) (k := 22) rfl)
        have E129 : rE M0 M114 o0 0 0 := yE0.same (rE_hv I0 J117 (I0.up h_o0) 15 19 (by decide)) (rE_ha I0 J117 (I0.up h_o0) (by decide))
        have Z9130 : pO M114 o0 pb pn pa ps := yO.same (rE_hv I0 J117 (I0.up h_o0) 14 20 (by decide)) (rv_c I0 J117 (I0.up h_o0) (k := 23) rfl) (ra_call I0 J117 (I0.up h_o0) (k := 13) rfl rfl rfl)
        have q131 := J117.keep h_o0 (by decide) q2
        have q132 := J117.keep h_o0 (by decide) q5
        refine mv_istore_n (lv' := [(1, .int v120), (0, .ref o0)]) d_TrustDeskModel_factor_43 rfl (by decide) rfl ?_
        refine mv_iload_n d_TrustDeskModel_factor_44 rfl rfl ?_
        refine mv_iconst (v := (-1)) d_TrustDeskModel_factor_45 (by decide) ?_
        have := mz_hi v120
        refine mv_icmp_neZ (tgt := 54) (a := v120.toInt) (b := (-1)) d_TrustDeskModel_factor_46 (by decide) rfl (by decide) (fun b133 => ?_) (fun b133 => ?_)
        · refine mv_aload_n d_TrustDeskModel_factor_54 rfl rfl ?_
          refine mv_sipush (v := 10000) d_TrustDeskModel_factor_55 (by decide) ?_
          refine mv_iload_n d_TrustDeskModel_factor_58 rfl rfl ?_
          refine mv_iadd d_TrustDeskModel_factor_59 ?_
          obtain ⟨_, b140, -⟩ := I118.1 _ _ t124
          have b141 : (10000 + v120 : Int32).toInt = (10000 + v120.toInt) := mz_add2 (by decide) rfl (by have := R121.1 15 _ _ rfl; have := R121.1 16 _ _ rfl; have := R121.1 19 _ _ rfl; have := E129.f yS; omega) (by have := R121.1 15 _ _ rfl; have := R121.1 16 _ _ rfl; have := R121.1 19 _ _ rfl; have := E129.f yS; omega)
          refine mv_callV (kc' := 0) (ks' := 0) (As := [.int (10000 + v120)]) (st9 := [.int (10000 + v120), .ref o0]) d_TrustDeskModel_factor_60 lV_TrustDeskModel_279 b140 rfl (tc_TrustDeskModel_emits_x (d := (d + 4)) (x9 := x9) (o0 := o0) (x1 := (10000 + v120)) t124 R121 (by have := R121.1 15 _ _ rfl; have := R121.1 16 _ _ rfl; have := R121.1 19 _ _ rfl; have := E129.f yS; omega) (by have := R121.1 15 _ _ rfl; have := R121.1 16 _ _ rfl; have := R121.1 19 _ _ rfl; have := E129.f yS; omega) I118.start) rfl (Nat.le_of_ble_eq_true rfl) (Nat.le_of_ble_eq_true rfl) (Nat.le_of_ble_eq_true rfl) (hst := rfl) (fun b134r M135 n136 b134 => ?_)
          obtain ⟨T137, J138, rfl, R142, f143⟩ := b134
          have I139 := I118.call J138 (tm_sub (by decide)) (Or.inl rfl)
          have t144 := J138.up t124
          have z145 := (rv_c I118 J138 (I118.up h_o0) (k := 16) rfl).trans z125
          have z146 := (rv_c I118 J138 (I118.up h_o0) (k := 17) rfl).trans z126
          have z147 := (rv_c I118 J138 (I118.up h_o0) (k := 19) rfl).trans z127
          have z148 := (rv_c I118 J138 (I118.up h_o0) (k := 22) rfl).trans z128
          have E149 : rE M0 M135 o0 1 (-1) := E129.emit f143 (rE_hv I118 J138 (I118.up h_o0) 15 19 (by decide)) (yR.2 5 _ _ rfl 44).1 (by decide) (Or.inl ⟨by have := R121.1 15 _ _ rfl; have := R121.1 16 _ _ rfl; have := R121.1 19 _ _ rfl; have := E129.f yS; omega, by decide⟩) (by decide)
          have Z9150 : pO M135 o0 pb pn pa ps := Z9130.same (rE_hv I118 J138 (I118.up h_o0) 14 20 (by decide)) (rv_c I118 J138 (I118.up h_o0) (k := 23) rfl) (ra_call I118 J138 (I118.up h_o0) (k := 13) rfl rfl rfl)
          clear z125 z126 z127 z128
          have q151 := J138.keep t124 (by decide) q131
          have q152 := J138.keep t124 (by decide) q132
          refine mv_aload_n d_TrustDeskModel_factor_63 rfl rfl ?_
          obtain ⟨_, b153, -⟩ := I139.1 _ _ t144
          refine mv_callV (kc1 := 0) (ks1 := 0) (kc' := 0) (ks' := 0) (As := []) (st9 := [.ref o0]) d_TrustDeskModel_factor_64 lV_TrustDeskModel_230 b153 rfl (mj_enter (by decide) (Nat.le_of_ble_eq_true rfl) ?_) rfl (Nat.le_of_ble_eq_true rfl) (Nat.le_of_ble_eq_true rfl) (Nat.le_of_ble_eq_true rfl) (hst := rfl) (fun _ _ _ h => h)
          refine mv_aload_n d_TrustDeskModel_isWell_0 rfl rfl ?_
          refine tr_getK (k := 19) q151 d_TrustDeskModel_isWell_1 f_TrustDeskModel_224_13 ?_
          have := mz_hi v3
          refine mv_if_neZ (tgt := 11) (a := v3.toInt) d_TrustDeskModel_isWell_4 (by decide) rfl (fun b154 => absurd b154 (by omega)) (fun b154 => ?_)
          refine mv_iconst (v := 1) d_TrustDeskModel_isWell_7 (by decide) ?_
          refine mv_goto (tgt := 12) d_TrustDeskModel_isWell_8 (by decide) ?_
          refine mv_iret d_TrustDeskModel_isWell_12 rfl (by decide) ?_
          refine mv_if_eq_f (tgt := 74) d_TrustDeskModel_factor_67 (by decide) (by decide) ?_
          refine mv_aload_n d_TrustDeskModel_factor_70 rfl rfl ?_
          obtain ⟨_, b161, -⟩ := I139.1 _ _ t144
          refine mv_callV (kc' := 0) (ks' := 0) (As := []) (st9 := [.ref o0]) d_TrustDeskModel_factor_71 lV_TrustDeskModel_237 b161 rfl (tc_TrustDeskModel_next_x (d := (d + 4)) (x9 := x9) (o0 := o0) t144 R142 Z9150.p I139.start) rfl (Nat.le_of_ble_eq_true rfl) (Nat.le_of_ble_eq_true rfl) (Nat.le_of_ble_eq_true rfl) (hst := rfl) (fun b155r M156 n157 b155 => ?_)
          obtain ⟨T158, J159, rfl, R162, f163, f164, f165⟩ := b155
          have I160 := I139.call J159 (tm_sub (by decide)) (Or.inl rfl)
          have t166 := J159.up t144
          have z167 := (rv_c I139 J159 (I139.up h_o0) (k := 19) rfl).trans z147
          have z168 := (rv_c I139 J159 (I139.up h_o0) (k := 22) rfl).trans z148
          have h170 : rv M135 o0 16 + 1 ≤ rv M135 o0 15 := (by have := R142.1 15 _ _ rfl; have := R142.1 16 _ _ rfl; have := R142.1 19 _ _ rfl; have := E149.f yS; omega)
          have E169 : rE M0 M156 o0 1 0 := E149.next f163 f164 (rv_c I139 J159 (I139.up h_o0) (k := 19) rfl) (rE_ha I139 J159 (I139.up h_o0) (by decide)) (e := 1) h170 (by decide)
          obtain ⟨s171, e172⟩ : ∃ s9 : p_S, p_nx ps = s9 := ⟨_, rfl⟩
          rw [e172] at f165
          have := f165.w
          clear z147 z148
          have q173 := J159.keep t144 (by decide) q151
          refine mv_goto (tgt := 118) d_TrustDeskModel_factor_74 (by decide) ?_
          exact mv_vret d_TrustDeskModel_factor_118 rfl ⟨_, I160, rfl, R162, E169, (by have := R162.1 15 _ _ rfl; have := R162.1 16 _ _ rfl; have := R162.1 19 _ _ rfl; have := E169.f yS; omega), (by first | (have := yO.s3 (by omega) (by omega); rw [show p_fac pb pn pa (p_op pb pn pa 0) ps = s171 from (by have hop : (p_op pb pn pa 0) ps = p_fl pb pn 4 ps := rfl; unfold p_fac; (try simp only [hop]); (try simp only [e172]); ((repeat' (first | (with_reducible rfl) | split)) <;> (exfalso; omega)))]; exact f165) | (exfalso; have := R162.1 15 _ _ rfl; have := R162.1 16 _ _ rfl; have := R162.1 19 _ _ rfl; have := E169.f yS; omega))⟩
        · refine mv_aload_n d_TrustDeskModel_factor_49 rfl rfl ?_
          refine mv_iconst (v := 3) d_TrustDeskModel_factor_50 (by decide) ?_
          obtain ⟨_, b180, -⟩ := I118.1 _ _ t124
          have : (3 : Int32).toInt = 3 := by decide
          refine mv_callV (kc' := 0) (ks' := 0) (As := [.int 3]) (st9 := [.int 3, .ref o0]) d_TrustDeskModel_factor_51 lV_TrustDeskModel_240 b180 rfl (tc_TrustDeskModel_fails_x (d := (d + 5)) (x9 := x9) (o0 := o0) (x1 := 3) t124 R121 (by decide) Z9130 I118.start) rfl (Nat.le_of_ble_eq_true rfl) (Nat.le_of_ble_eq_true rfl) (Nat.le_of_ble_eq_true rfl) (hst := rfl) (fun b174r M175 n176 b174 => ?_)
          obtain ⟨T177, J178, rfl, R181, f182, f183⟩ := b174
          have I179 := I118.call J178 (tm_sub (by decide)) (Or.inl rfl)
          have t184 := J178.up t124
          have z185 := (rv_c I118 J178 (I118.up h_o0) (k := 16) rfl).trans z125
          have z186 := (rv_c I118 J178 (I118.up h_o0) (k := 17) rfl).trans z126
          have z187 := (rv_c I118 J178 (I118.up h_o0) (k := 22) rfl).trans z128
          have E188 : rE M0 M175 o0 0 0 := E129.fails (rE_hv I118 J178 (I118.up h_o0) 15 18 (by decide)) (rE_ha I118 J178 (I118.up h_o0) (by decide)) f182 0 0
          rw [show (3 : Int32).toInt = 3 from by decide] at f183
          obtain ⟨s189, e190⟩ : ∃ s9 : p_S, p_fl pb pn 3 ps = s9 := ⟨_, rfl⟩
          rw [e190] at f183
          have := f183.w
          clear z125 z126 z128
          have q191 := J178.keep t124 (by decide) q132
          refine mv_aload_n d_TrustDeskModel_factor_54 rfl rfl ?_
          refine mv_sipush (v := 10000) d_TrustDeskModel_factor_55 (by decide) ?_
          refine mv_iload_n d_TrustDeskModel_factor_58 rfl rfl ?_
          refine mv_iadd d_TrustDeskModel_factor_59 ?_
          obtain ⟨_, b198, -⟩ := I179.1 _ _ t184
          have b199 : (10000 + v120 : Int32).toInt = (10000 + v120.toInt) := mz_add2 (by decide) rfl (by have := R181.1 15 _ _ rfl; have := R181.1 16 _ _ rfl; have := R181.1 19 _ _ rfl; have := E188.f yS; omega) (by have := R181.1 15 _ _ rfl; have := R181.1 16 _ _ rfl; have := R181.1 19 _ _ rfl; have := E188.f yS; omega)
          refine mv_callV (kc' := 0) (ks' := 0) (As := [.int (10000 + v120)]) (st9 := [.int (10000 + v120), .ref o0]) d_TrustDeskModel_factor_60 lV_TrustDeskModel_279 b198 rfl (tc_TrustDeskModel_emits_x (d := (d + 4)) (x9 := x9) (o0 := o0) (x1 := (10000 + v120)) t184 R181 (by have := R181.1 15 _ _ rfl; have := R181.1 16 _ _ rfl; have := R181.1 19 _ _ rfl; have := E188.f yS; omega) (by have := R181.1 15 _ _ rfl; have := R181.1 16 _ _ rfl; have := R181.1 19 _ _ rfl; have := E188.f yS; omega) I179.start) rfl (Nat.le_of_ble_eq_true rfl) (Nat.le_of_ble_eq_true rfl) (Nat.le_of_ble_eq_true rfl) (hst := rfl) (fun b192r M193 n194 b192 => ?_)
          obtain ⟨T195, J196, rfl, R200, f201⟩ := b192
          have I197 := I179.call J196 (tm_sub (by decide)) (Or.inl rfl)
          have t202 := J196.up t184
          have z203 := (rv_c I179 J196 (I179.up h_o0) (k := 16) rfl).trans z185
          have z204 := (rv_c I179 J196 (I179.up h_o0) (k := 17) rfl).trans z186
          have z205 := (rv_c I179 J196 (I179.up h_o0) (k := 19) rfl)
          have z206 := (rv_c I179 J196 (I179.up h_o0) (k := 22) rfl).trans z187
          have E207 : rE M0 M193 o0 1 (-1) := E188.emit f201 (rE_hv I179 J196 (I179.up h_o0) 15 19 (by decide)) (yR.2 5 _ _ rfl 44).1 (by decide) (Or.inl ⟨by have := R181.1 15 _ _ rfl; have := R181.1 16 _ _ rfl; have := R181.1 19 _ _ rfl; have := E188.f yS; omega, by decide⟩) (by decide)
          have Z9208 : pO M193 o0 pb pn pa s189 := f183.same (rE_hv I179 J196 (I179.up h_o0) 14 20 (by decide)) (rv_c I179 J196 (I179.up h_o0) (k := 23) rfl) (ra_call I179 J196 (I179.up h_o0) (k := 13) rfl rfl rfl)
          clear z185 z186 z187
          have q209 := J196.keep t184 (by decide) q191
          refine mv_aload_n d_TrustDeskModel_factor_63 rfl rfl ?_
          obtain ⟨_, b210, -⟩ := I197.1 _ _ t202
          refine mv_callV (kc1 := 0) (ks1 := 0) (kc' := 0) (ks' := 0) (As := []) (st9 := [.ref o0]) d_TrustDeskModel_factor_64 lV_TrustDeskModel_230 b210 rfl (mj_enter (by decide) (Nat.le_of_ble_eq_true rfl) ?_) rfl (Nat.le_of_ble_eq_true rfl) (Nat.le_of_ble_eq_true rfl) (Nat.le_of_ble_eq_true rfl) (hst := rfl) (fun _ _ _ h => h)
          refine mv_aload_n d_TrustDeskModel_isWell_0 rfl rfl ?_
          obtain ⟨v212, q211⟩ := tm_atI I197 t202 (k := 19) rfl
          refine tr_getK q211 d_TrustDeskModel_isWell_1 f_TrustDeskModel_224_13 ?_
          have := R200.f (k := 19) q211 rfl
          have := (tm_rv q211).symm.trans z205
          have := tm_rv q211
          have := mz_hi v212
          refine mv_if_neZ (tgt := 11) (a := v212.toInt) d_TrustDeskModel_isWell_4 (by decide) rfl (fun b213 => ?_) (fun b213 => ?_)
          · refine mv_iconst (v := 0) d_TrustDeskModel_isWell_11 (by decide) ?_
            refine mv_iret d_TrustDeskModel_isWell_12 rfl (by decide) ?_
            refine mv_if_eq_t (tgt := 74) d_TrustDeskModel_factor_67 (by decide) (by decide) ?_
            refine mv_goto (tgt := 118) d_TrustDeskModel_factor_74 (by decide) ?_
            exact mv_vret d_TrustDeskModel_factor_118 rfl ⟨_, I197, rfl, R200, E207.vac (by have := R200.1 15 _ _ rfl; have := R200.1 16 _ _ rfl; have := R200.1 19 _ _ rfl; have := E207.f yS; omega) 1 0, (by have := R200.1 15 _ _ rfl; have := R200.1 16 _ _ rfl; have := R200.1 19 _ _ rfl; have := E207.f yS; omega), (by first | (have := yO.s3 (by omega) (by omega); rw [show p_fac pb pn pa (p_op pb pn pa 0) ps = s189 from (by have hop : (p_op pb pn pa 0) ps = p_fl pb pn 4 ps := rfl; unfold p_fac; (try simp only [hop]); (try simp only [e190]); ((repeat' (first | (with_reducible rfl) | split)) <;> (exfalso; omega)))]; exact Z9208) | (exfalso; have := R200.1 15 _ _ rfl; have := R200.1 16 _ _ rfl; have := R200.1 19 _ _ rfl; have := E207.f yS; omega))⟩
          · refine mv_iconst (v := 1) d_TrustDeskModel_isWell_7 (by decide) ?_
            refine mv_goto (tgt := 12) d_TrustDeskModel_isWell_8 (by decide) ?_
            refine mv_iret d_TrustDeskModel_isWell_12 rfl (by decide) ?_
            refine mv_if_eq_f (tgt := 74) d_TrustDeskModel_factor_67 (by decide) (by decide) ?_
            refine mv_aload_n d_TrustDeskModel_factor_70 rfl rfl ?_
            obtain ⟨_, b220, -⟩ := I197.1 _ _ t202
            refine mv_callV (kc' := 0) (ks' := 0) (As := []) (st9 := [.ref o0]) d_TrustDeskModel_factor_71 lV_TrustDeskModel_237 b220 rfl (tc_TrustDeskModel_next_x (d := (d + 4)) (x9 := x9) (o0 := o0) t202 R200 Z9208.p I197.start) rfl (Nat.le_of_ble_eq_true rfl) (Nat.le_of_ble_eq_true rfl) (Nat.le_of_ble_eq_true rfl) (hst := rfl) (fun b214r M215 n216 b214 => ?_)
            obtain ⟨T217, J218, rfl, R221, f222, f223, f224⟩ := b214
            have I219 := I197.call J218 (tm_sub (by decide)) (Or.inl rfl)
            have t225 := J218.up t202
            have z226 := (rv_c I197 J218 (I197.up h_o0) (k := 19) rfl).trans z205
            have z227 := (rv_c I197 J218 (I197.up h_o0) (k := 22) rfl).trans z206
            have h229 : rv M193 o0 16 + 1 ≤ rv M193 o0 15 := (by have := R200.1 15 _ _ rfl; have := R200.1 16 _ _ rfl; have := R200.1 19 _ _ rfl; have := E207.f yS; omega)
            have E228 : rE M0 M215 o0 1 0 := E207.next f222 f223 (rv_c I197 J218 (I197.up h_o0) (k := 19) rfl) (rE_ha I197 J218 (I197.up h_o0) (by decide)) (e := 1) h229 (by decide)
            obtain ⟨s230, e231⟩ : ∃ s9 : p_S, p_nx s189 = s9 := ⟨_, rfl⟩
            rw [e231] at f224
            have := f224.w
            clear z205 z206
            have q232 := J218.keep t202 (by decide) q211
            refine mv_goto (tgt := 118) d_TrustDeskModel_factor_74 (by decide) ?_
            exact mv_vret d_TrustDeskModel_factor_118 rfl ⟨_, I219, rfl, R221, E228, (by have := R221.1 15 _ _ rfl; have := R221.1 16 _ _ rfl; have := R221.1 19 _ _ rfl; have := E228.f yS; omega), (by first | (have := yO.s3 (by omega) (by omega); rw [show p_fac pb pn pa (p_op pb pn pa 0) ps = s230 from (by have hop : (p_op pb pn pa 0) ps = p_fl pb pn 4 ps := rfl; unfold p_fac; (try simp only [hop]); (try simp only [e190, e231]); ((repeat' (first | (with_reducible rfl) | split)) <;> (exfalso; omega)))]; exact f224) | (exfalso; have := R221.1 15 _ _ rfl; have := R221.1 16 _ _ rfl; have := R221.1 19 _ _ rfl; have := E228.f yS; omega))⟩
    · refine mv_aload_n d_TrustDeskModel_factor_16 rfl rfl ?_
      refine mv_aload_n d_TrustDeskModel_factor_17 rfl rfl ?_
      obtain ⟨v234, q233⟩ := tm_atI I0 h_o0 (k := 18) rfl
      refine tr_getK q233 d_TrustDeskModel_factor_18 f_TrustDeskModel_201_13 ?_
      have := yR.f (k := 18) q233 rfl
      have := tm_rv q233
      obtain ⟨_, b241, -⟩ := I0.1 _ _ h_o0
      refine mv_callV (kc' := 0) (ks' := 0) (As := [.int v234]) (st9 := [.int v234, .ref o0]) d_TrustDeskModel_factor_21 lV_TrustDeskModel_279 b241 rfl (tc_TrustDeskModel_emits_x (d := (d + 4)) (x9 := x9) (o0 := o0) (x1 := v234) h_o0 yR (by have := yR.1 15 _ _ rfl; have := yR.1 16 _ _ rfl; have := yR.1 19 _ _ rfl; have := yE0.f yS; omega) (by have := yR.1 15 _ _ rfl; have := yR.1 16 _ _ rfl; have := yR.1 19 _ _ rfl; have := yE0.f yS; omega) I0.start) rfl (Nat.le_of_ble_eq_true rfl) (Nat.le_of_ble_eq_true rfl) (Nat.le_of_ble_eq_true rfl) (hst := rfl) (fun b235r M236 n237 b235 => ?_)
      obtain ⟨T238, J239, rfl, R242, f243⟩ := b235
      have I240 := I0.call J239 (tm_sub (by decide)) (Or.inl rfl)
      have t244 := J239.up h_o0
      have z245 := (rv_c I0 J239 (I0.up h_o0) (k := 16) rfl)
      have z246 := (rv_c I0 J239 (I0.up h_o0) (k := 17) rfl)
      have z247 := (rv_c I0 J239 (I0.up h_o0) (k := 19) rfl)
      have z248 := (rv_c I0 J239 (I0.up h_o0) (k := 22) rfl)
      have E249 : rE M0 M236 o0 1 (-1) := yE0.emit f243 (rE_hv I0 J239 (I0.up h_o0) 15 19 (by decide)) (yR.2 5 _ _ rfl 44).1 (by decide) (Or.inl ⟨by have := yR.1 15 _ _ rfl; have := yR.1 16 _ _ rfl; have := yR.1 19 _ _ rfl; have := yE0.f yS; omega, by decide⟩) (by decide)
      have Z9250 : pO M236 o0 pb pn pa ps := yO.same (rE_hv I0 J239 (I0.up h_o0) 14 20 (by decide)) (rv_c I0 J239 (I0.up h_o0) (k := 23) rfl) (ra_call I0 J239 (I0.up h_o0) (k := 13) rfl rfl rfl)
      have q251 := J239.keep h_o0 (by decide) q2
      have q252 := J239.keep h_o0 (by decide) q5
      have q253 := J239.keep h_o0 (by decide) q233
      refine mv_aload_n d_TrustDeskModel_factor_24 rfl rfl ?_
      obtain ⟨_, b260, -⟩ := I240.1 _ _ t244
      refine mv_callV (kc' := 0) (ks' := 0) (As := []) (st9 := [.ref o0]) d_TrustDeskModel_factor_25 lV_TrustDeskModel_237 b260 rfl (tc_TrustDeskModel_next_x (d := (d + 4)) (x9 := x9) (o0 := o0) t244 R242 Z9250.p I240.start) rfl (Nat.le_of_ble_eq_true rfl) (Nat.le_of_ble_eq_true rfl) (Nat.le_of_ble_eq_true rfl) (hst := rfl) (fun b254r M255 n256 b254 => ?_)
      obtain ⟨T257, J258, rfl, R261, f262, f263, f264⟩ := b254
      have I259 := I240.call J258 (tm_sub (by decide)) (Or.inl rfl)
      have t265 := J258.up t244
      have z266 := (rv_c I240 J258 (I240.up h_o0) (k := 19) rfl).trans z247
      have z267 := (rv_c I240 J258 (I240.up h_o0) (k := 22) rfl).trans z248
      have h269 : rv M236 o0 16 + 1 ≤ rv M236 o0 15 := (by have := R242.1 15 _ _ rfl; have := R242.1 16 _ _ rfl; have := R242.1 19 _ _ rfl; have := E249.f yS; omega)
      have E268 : rE M0 M255 o0 1 0 := E249.next f262 f263 (rv_c I240 J258 (I240.up h_o0) (k := 19) rfl) (rE_ha I240 J258 (I240.up h_o0) (by decide)) (e := 1) h269 (by decide)
      obtain ⟨s270, e271⟩ : ∃ s9 : p_S, p_nx ps = s9 := ⟨_, rfl⟩
      rw [e271] at f264
      have := f264.w
      clear z247 z248
      have q272 := J258.keep t244 (by decide) q251
      refine mv_goto (tgt := 118) d_TrustDeskModel_factor_28 (by decide) ?_
      exact mv_vret d_TrustDeskModel_factor_118 rfl ⟨_, I259, rfl, R261, E268, (by have := R261.1 15 _ _ rfl; have := R261.1 16 _ _ rfl; have := R261.1 19 _ _ rfl; have := E268.f yS; omega), (by first | (have := yO.s2 (by omega) (by omega); rw [show p_fac pb pn pa (p_op pb pn pa 0) ps = s270 from (by have hop : (p_op pb pn pa 0) ps = p_fl pb pn 4 ps := rfl; unfold p_fac; (try simp only [hop]); (try simp only [e271]); ((repeat' (first | (with_reducible rfl) | split)) <;> (exfalso; omega)))]; exact f264) | (exfalso; have := R261.1 15 _ _ rfl; have := R261.1 16 _ _ rfl; have := R261.1 19 _ _ rfl; have := E268.f yS; omega))⟩
