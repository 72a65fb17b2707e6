def w_TrustDeskModel_against_h : List Nat := []
set_option maxHeartbeats 100000000 in theorem tc_TrustDeskModel_against_h {g : mj_G} {l : Launch} {d : Nat} {T0 : tm_H} {M0 : mj_M} {n0 x9 : Nat} {o0 : Nat} {x1 : Int32} (h_o0 : T0 o0 = some (0, 13, 0)) (hn0 : 0 ≤ x1.toInt ∧ x1.toInt ≤ 39) (yR : rI M0 o0) (I0 : tm_I tm_FT (tm_in w_TrustDeskModel_against_h) x9 T0 M0 n0 T0 M0 n0) : mj_Met g l kY_TrustDeskModel_against d [.ref o0, .int x1] M0 n0 0 0 (tm_Q tm_FT (tm_in w_TrustDeskModel_against_h) x9 T0 M0 n0 (fun r _ M => ∃ v : Int32, r = some (.int v) ∧ rI M o0 ∧ (v.toInt = p_cn (fun y => ra M0 o0 61 (100 * (x1.toInt).toNat + y)) 100))) := by
  refine mj_enter (by decide) (Nat.le_of_ble_eq_true rfl) ?_
  have K1 : sA [61] M0 M0 o0 := sA.rf
  refine mv_iconst (v := 0) d_TrustDeskModel_against_0 (by decide) ?_
  refine mv_istore_n (lv' := [(2, .int 0), (0, .ref o0), (1, .int x1)]) d_TrustDeskModel_against_1 rfl (by decide) rfl ?_
  refine mv_iconst (v := 0) d_TrustDeskModel_against_2 (by decide) ?_
  refine mv_istore_n (lv' := [(3, .int 0), (2, .int 0), (0, .ref o0), (1, .int x1)]) d_TrustDeskModel_against_3 rfl (by decide) rfl ?_
  have L4_2 : ∀ (k : Nat) (i3_2 : Int32) (i2_2 : Int32) (T_2 : tm_H) (M_2 : mj_M) (n_2 : Nat), tm_I tm_FT (tm_in w_TrustDeskModel_against_h) x9 T0 M0 n0 T_2 M_2 n_2 → T_2 o0 = some (0, 13, 0) → 0 ≤ i3_2.toInt → 0 ≤ i2_2.toInt → i2_2.toInt ≤ i3_2.toInt → i3_2.toInt ≤ 100 → i2_2.toInt = p_cn (fun y => ra M0 o0 61 (100 * (x1.toInt).toNat + y)) (i3_2.toInt).toNat → (rI M_2 o0) → (sA [61] M0 M_2 o0) → 2147483647 - i3_2.toInt < (k : Int) → mj_V g l kY_TrustDeskModel_against d 4 [(3, .int i3_2), (2, .int i2_2), (0, .ref o0), (1, .int x1)] [] M_2 n_2 0 0 (tm_Q tm_FT (tm_in w_TrustDeskModel_against_h) x9 T0 M0 n0 (fun r _ M => ∃ v : Int32, r = some (.int v) ∧ rI M o0 ∧ (v.toInt = p_cn (fun y => ra M0 o0 61 (100 * (x1.toInt).toNat + y)) 100))) := by
    intro k2
    induction k2 with
    | zero =>
      intro i3_2 i2_2 T_2 M_2 n_2 I_2 h_q0_2 iv0_2 iv1_2 iv2_2 iv3_2 iv4_2 kKR_2 kKS61_2 hk2
      have := mz_hi i3_2
      have := kKR_2.1 15 _ _ rfl
      have := kKR_2.1 16 _ _ rfl
      have := kKR_2.1 19 _ _ rfl
      omega
    | succ k2 ih2 =>
      intro i3_2 i2_2 T_2 M_2 n_2 I_2 h_q0_2 iv0_2 iv1_2 iv2_2 iv3_2 iv4_2 kKR_2 kKS61_2 hk2
      refine mv_iload_n d_TrustDeskModel_against_4 rfl rfl ?_
      refine mv_bipush (v := 100) d_TrustDeskModel_against_5 (by decide) ?_
      have := mz_hi i3_2
      refine mv_icmp_geZ (tgt := 33) (a := i3_2.toInt) (b := 100) d_TrustDeskModel_against_7 (by decide) rfl (by decide) (fun b3 => ?_) (fun b3 => ?_)
      · refine mv_iload_n d_TrustDeskModel_against_33 rfl rfl ?_
        exact mv_iret d_TrustDeskModel_against_34 rfl (by first | rfl | decide) ⟨_, I_2, _, rfl, kKR_2, (by have e9 := iv4_2; rw [show (i3_2.toInt).toNat = 100 from by omega] at e9; exact e9)⟩
      · refine mv_aload_n d_TrustDeskModel_against_10 rfl rfl ?_
        obtain ⟨a5, q4, t_a5⟩ := tm_atR I_2 h_q0_2 (k := 61) rfl
        refine tr_getK q4 d_TrustDeskModel_against_11 f_TrustDeskModel_143_13 ?_
        refine mv_bipush (v := 100) d_TrustDeskModel_against_14 (by decide) ?_
        refine mv_iload_n d_TrustDeskModel_against_16 rfl rfl ?_
        refine mv_imul d_TrustDeskModel_against_17 ?_
        refine mv_iload_n d_TrustDeskModel_against_18 rfl rfl ?_
        refine mv_iadd d_TrustDeskModel_against_19 ?_
        have b6 : (100 * x1 : Int32).toInt = (100 * x1.toInt) := mz_mul2 (by decide) rfl (by omega) (by omega)
        have b7 : ((100 * x1) + i3_2 : Int32).toInt = ((100 * x1.toInt) + i3_2.toInt) := mz_add2 b6 rfl (by omega) (by omega)
        refine tr_zaldR (o := o0) (k := 61) I_2 q4 t_a5 (by decide) d_TrustDeskModel_against_20 (vp_in_iff.mpr (by omega)) (fun v8 e9 => ?_)
        have : v8.toInt = ra M0 o0 61 (100 * (x1.toInt).toNat + (i3_2.toInt).toNat) := by rw [e9, show ((100 * x1) + i3_2).toNatClampNeg = 100 * (x1.toInt).toNat + (i3_2.toInt).toNat from by have := mz_nat9 (i := ((100 * x1) + i3_2)) (by omega); omega]; exact congrFun (kKS61_2 61 rfl) _
        have := mz_hi v8
        refine mv_if_eqZ (tgt := 27) (a := v8.toInt) d_TrustDeskModel_against_21 (by decide) rfl (fun b10 => ?_) (fun b10 => ?_)
        · refine mv_iinc (v := (i3_2 + 1)) (lv' := [(3, .int (i3_2 + 1)), (2, .int i2_2), (0, .ref o0), (1, .int x1)]) d_TrustDeskModel_against_27 rfl rfl (by decide) rfl ?_
          refine mv_goto (tgt := 4) d_TrustDeskModel_against_30 (by decide) ?_
          have b11 : (i3_2 + 1 : Int32).toInt = (i3_2.toInt + 1) := mz_add2 rfl (by decide) (by omega) (by omega)
          have b12 : (i3_2 + 1).toInt = i3_2.toInt + 1 := mz_addn 1 1 (by decide) (by have := mz_lo i3_2; omega) (by have := mz_hi i3_2; omega)
          exact (ih2 (i3_2 + 1) i2_2 T_2 M_2 n_2 I_2 h_q0_2 (by first | omega | decide | exact fun h9 => absurd (by decide) h9) (by first | omega | decide | exact fun h9 => absurd (by decide) h9) (by first | omega | decide | exact fun h9 => absurd (by decide) h9) (by first | omega | decide | exact fun h9 => absurd (by decide) h9) (by have e9 := iv4_2; rw [show ((i3_2 + 1).toInt).toNat = (i3_2.toInt).toNat + 1 from by omega]; show _ = if ra M0 o0 61 (100 * (x1.toInt).toNat + (i3_2.toInt).toNat) = 0 then p_cn (fun y => ra M0 o0 61 (100 * (x1.toInt).toNat + y)) (i3_2.toInt).toNat else p_cn (fun y => ra M0 o0 61 (100 * (x1.toInt).toNat + y)) (i3_2.toInt).toNat + 1; rw [if_pos (by omega)]; omega) kKR_2 kKS61_2 (by omega))
        · refine mv_iinc (v := (i2_2 + 1)) (lv' := [(2, .int (i2_2 + 1)), (3, .int i3_2), (0, .ref o0), (1, .int x1)]) d_TrustDeskModel_against_24 rfl rfl (by decide) rfl ?_
          refine mv_iinc (v := (i3_2 + 1)) (lv' := [(3, .int (i3_2 + 1)), (2, .int (i2_2 + 1)), (0, .ref o0), (1, .int x1)]) d_TrustDeskModel_against_27 rfl rfl (by decide) rfl ?_
          refine mv_goto (tgt := 4) d_TrustDeskModel_against_30 (by decide) ?_
          have b13 : (i3_2 + 1 : Int32).toInt = (i3_2.toInt + 1) := mz_add2 rfl (by decide) (by omega) (by omega)
          have b14 : (i2_2 + 1 : Int32).toInt = (i2_2.toInt + 1) := mz_add2 rfl (by decide) (by omega) (by omega)
          have b15 : (i3_2 + 1).toInt = i3_2.toInt + 1 := mz_addn 1 1 (by decide) (by have := mz_lo i3_2; omega) (by have := mz_hi i3_2; omega)
          exact (ih2 (i3_2 + 1) (i2_2 + 1) T_2 M_2 n_2 I_2 h_q0_2 (by first | omega | decide | exact fun h9 => absurd (by decide) h9) (by first | omega | decide | exact fun h9 => absurd (by decide) h9) (by first | omega | decide | exact fun h9 => absurd (by decide) h9) (by first | omega | decide | exact fun h9 => absurd (by decide) h9) (by have e9 := iv4_2; rw [show ((i3_2 + 1).toInt).toNat = (i3_2.toInt).toNat + 1 from by omega]; show _ = if ra M0 o0 61 (100 * (x1.toInt).toNat + (i3_2.toInt).toNat) = 0 then p_cn (fun y => ra M0 o0 61 (100 * (x1.toInt).toNat + y)) (i3_2.toInt).toNat else p_cn (fun y => ra M0 o0 61 (100 * (x1.toInt).toNat + y)) (i3_2.toInt).toNat + 1; rw [if_neg (by omega)]; omega) kKR_2 kKS61_2 (by omega))
  have : (0 : Int32).toInt = 0 := by decide
  exact mv_less (Nat.zero_le _) (Nat.zero_le _) (L4_2 4294967296 0 0 T0 M0 n0 I0 h_o0 (by first | omega | decide | exact fun h9 => absurd (by decide) h9) (by first | omega | decide | exact fun h9 => absurd (by decide) h9) (by first | omega | decide | exact fun h9 => absurd (by decide) h9) (by first | omega | decide | exact fun h9 => absurd (by decide) h9) (by rw [show ((0 : Int32).toInt).toNat = 0 from by decide]; exact (by decide : (0 : Int32).toInt = 0)) yR K1 (by show (2147483647 - (0 : Int) : Int) < _; decide))
def w_TrustDeskModel_objects_h : List Nat := [1300, 20061]
set_option maxHeartbeats 100000000 in theorem tc_TrustDeskModel_objects_h {g : mj_G} {l : Launch} {d : Nat} {T0 : tm_H} {M0 : mj_M} {n0 x9 : Nat} {o0 : Nat} {x1 : Int32} {x2 : Int32} (h_o0 : T0 o0 = some (0, 13, 0)) (yR : rI M0 o0) (I0 : tm_I tm_FT (tm_in w_TrustDeskModel_objects_h) x9 T0 M0 n0 T0 M0 n0) : mj_Met g l kY_TrustDeskModel_objects (d + 1) [.ref o0, .int x1, .int x2] M0 n0 0 0 (tm_Q tm_FT (tm_in w_TrustDeskModel_objects_h) x9 T0 M0 n0 (fun r _ M => ∃ v : Int32, r = some (.int v) ∧ 0 ≤ v.toInt ∧ v.toInt ≤ 1 ∧ rI M o0 ∧ ((v.toInt = 0 ∧ ¬ (0 ≤ x1.toInt ∧ x1.toInt < rv M0 o0 53 ∧ 0 ≤ x2.toInt ∧ x2.toInt ≤ 99 ∧ ra M0 o0 59 (x1.toInt).toNat = 0 ∧ rv M0 o0 1 ≤ ra M0 o0 58 (x1.toInt).toNat ∧ ra M0 o0 61 (100 * x1.toInt + x2.toInt).toNat = 0 ∧ p_cn (fun y => ra M0 o0 61 (100 * (x1.toInt).toNat + y)) 100 ≠ 10) ∧ ∀ i, ra M o0 61 i = ra M0 o0 61 i) ∨ (v.toInt = 1 ∧ (0 ≤ x1.toInt ∧ x1.toInt < rv M0 o0 53 ∧ 0 ≤ x2.toInt ∧ x2.toInt ≤ 99 ∧ ra M0 o0 59 (x1.toInt).toNat = 0 ∧ rv M0 o0 1 ≤ ra M0 o0 58 (x1.toInt).toNat ∧ ra M0 o0 61 (100 * x1.toInt + x2.toInt).toNat = 0 ∧ p_cn (fun y => ra M0 o0 61 (100 * (x1.toInt).toNat + y)) 100 ≠ 10) ∧ ∀ i, ra M o0 61 i = if i = (100 * x1.toInt + x2.toInt).toNat then 1 else ra M0 o0 61 i)))) := by
  refine mj_enter (by decide) (Nat.le_of_ble_eq_true rfl) ?_
  have K1 : sA [58] M0 M0 o0 := sA.rf
  have K2 : sA [59] M0 M0 o0 := sA.rf
  have K3 : ∀ i, ra M0 o0 61 i = ra M0 o0 61 i := (fun _ => rfl)
  refine mv_aload_n d_TrustDeskModel_objects_0 rfl rfl ?_
  refine mv_iconst (v := 0) d_TrustDeskModel_objects_1 (by decide) ?_
  refine tr_putR (k := 0) I0 yR h_o0 rfl ⟨_, rfl⟩ (fun _ h => by cases h) rfl (fun lo hi h => by cases h) (Or.inl (by decide)) d_TrustDeskModel_objects_2 p_TrustDeskModel_1_13 rfl rfl (fun M4 I5 q6 K7 R8 A9 V10 => ?_)
  have z11 := (V10 1 (by decide))
  have z12 := (V10 53 (by decide))
  have K13 : sA [58] M0 M4 o0 := K1.trans (sA_f A9 (by decide))
  have K14 : sA [59] M0 M4 o0 := K2.trans (sA_f A9 (by decide))
  have K15 : ∀ i, ra M4 o0 61 i = ra M0 o0 61 i := (fun i => (congrFun (((sA_f A9 (by decide)) : sA [61] _ _ _) 61 rfl) i).trans (K3 i))
  refine mv_aload_n d_TrustDeskModel_objects_5 rfl rfl ?_
  refine mv_iload_n d_TrustDeskModel_objects_6 rfl rfl ?_
  obtain ⟨_, b16, -⟩ := I5.1 _ _ h_o0
  refine mv_callV (kc1 := 0) (ks1 := 0) (kc' := 0) (ks' := 0) (As := [.int x1]) (st9 := [.int x1, .ref o0]) d_TrustDeskModel_objects_7 lV_TrustDeskModel_506 b16 rfl (mj_enter (by decide) (Nat.le_of_ble_eq_true rfl) ?_) rfl (Nat.le_of_ble_eq_true rfl) (Nat.le_of_ble_eq_true rfl) (Nat.le_of_ble_eq_true rfl) (hst := rfl) (fun _ _ _ h => h)
  refine mv_iload_n d_TrustDeskModel_isScheme_0 rfl rfl ?_
  have := mz_hi x1
  refine mv_if_ltZ (tgt := 16) (a := x1.toInt) d_TrustDeskModel_isScheme_1 (by decide) rfl (fun b17 => ?_) (fun b17 => ?_)
  · refine mv_iconst (v := 0) d_TrustDeskModel_isScheme_16 (by decide) ?_
    refine mv_iret d_TrustDeskModel_isScheme_17 rfl (by decide) ?_
    refine mv_if_eq_t (tgt := 41) d_TrustDeskModel_objects_10 (by decide) (by decide) ?_
    refine mv_iconst (v := 0) d_TrustDeskModel_objects_41 (by decide) ?_
    exact mv_iret d_TrustDeskModel_objects_42 rfl (by decide) ⟨_, I5, _, rfl, by decide, by decide, R8, (Or.inl ⟨by decide, by omega, K15⟩)⟩
  · refine mv_iload_n d_TrustDeskModel_isScheme_4 rfl rfl ?_
    refine mv_aload_n d_TrustDeskModel_isScheme_5 rfl rfl ?_
    obtain ⟨v19, q18⟩ := tm_atI I5 h_o0 (k := 53) rfl
    refine tr_getK q18 d_TrustDeskModel_isScheme_6 f_TrustDeskModel_501_13 ?_
    have := R8.f (k := 53) q18 rfl
    have := (tm_rv q18).symm.trans z12
    have := tm_rv q18
    have := mz_hi x1
    have := mz_hi v19
    refine mv_icmp_geZ (tgt := 16) (a := x1.toInt) (b := v19.toInt) d_TrustDeskModel_isScheme_9 (by decide) rfl rfl (fun b20 => ?_) (fun b20 => ?_)
    · refine mv_iconst (v := 0) d_TrustDeskModel_isScheme_16 (by decide) ?_
      refine mv_iret d_TrustDeskModel_isScheme_17 rfl (by decide) ?_
      refine mv_if_eq_t (tgt := 41) d_TrustDeskModel_objects_10 (by decide) (by decide) ?_
      refine mv_iconst (v := 0) d_TrustDeskModel_objects_41 (by decide) ?_
      exact mv_iret d_TrustDeskModel_objects_42 rfl (by decide) ⟨_, I5, _, rfl, by decide, by decide, R8, (Or.inl ⟨by decide, by omega, K15⟩)⟩
    · refine mv_iconst (v := 1) d_TrustDeskModel_isScheme_12 (by decide) ?_
      refine mv_goto (tgt := 17) d_TrustDeskModel_isScheme_13 (by decide) ?_
      refine mv_iret d_TrustDeskModel_isScheme_17 rfl (by decide) ?_
      refine mv_if_eq_f (tgt := 41) d_TrustDeskModel_objects_10 (by decide) (by decide) ?_
      refine mv_iload_n d_TrustDeskModel_objects_13 rfl rfl ?_
      refine mv_callS (kc1 := 0) (ks1 := 0) (kc' := 0) (ks' := 0) (As := [.int x2]) (st9 := [.int x2]) d_TrustDeskModel_objects_14 lS_TrustDeskModel_495 (mj_enter (by decide) (Nat.le_of_ble_eq_true rfl) ?_) rfl (Nat.le_of_ble_eq_true rfl) (Nat.le_of_ble_eq_true rfl) (Nat.le_of_ble_eq_true rfl) (hst := rfl) (fun _ _ _ h => h)
      refine mv_iload_n d_TrustDeskModel_isPerson_0 rfl rfl ?_
      have := mz_hi x2
      refine mv_if_ltZ (tgt := 14) (a := x2.toInt) d_TrustDeskModel_isPerson_1 (by decide) rfl (fun b21 => ?_) (fun b21 => ?_)
      · refine mv_iconst (v := 0) d_TrustDeskModel_isPerson_14 (by decide) ?_
        refine mv_iret d_TrustDeskModel_isPerson_15 rfl (by decide) ?_
        refine mv_if_eq_t (tgt := 41) d_TrustDeskModel_objects_17 (by decide) (by decide) ?_
        refine mv_iconst (v := 0) d_TrustDeskModel_objects_41 (by decide) ?_
        exact mv_iret d_TrustDeskModel_objects_42 rfl (by decide) ⟨_, I5, _, rfl, by decide, by decide, R8, (Or.inl ⟨by decide, by omega, K15⟩)⟩
      · refine mv_iload_n d_TrustDeskModel_isPerson_4 rfl rfl ?_
        refine mv_bipush (v := 100) d_TrustDeskModel_isPerson_5 (by decide) ?_
        have := mz_hi x2
        refine mv_icmp_geZ (tgt := 14) (a := x2.toInt) (b := 100) d_TrustDeskModel_isPerson_7 (by decide) rfl (by decide) (fun b22 => ?_) (fun b22 => ?_)
        · refine mv_iconst (v := 0) d_TrustDeskModel_isPerson_14 (by decide) ?_
          refine mv_iret d_TrustDeskModel_isPerson_15 rfl (by decide) ?_
          refine mv_if_eq_t (tgt := 41) d_TrustDeskModel_objects_17 (by decide) (by decide) ?_
          refine mv_iconst (v := 0) d_TrustDeskModel_objects_41 (by decide) ?_
          exact mv_iret d_TrustDeskModel_objects_42 rfl (by decide) ⟨_, I5, _, rfl, by decide, by decide, R8, (Or.inl ⟨by decide, by omega, K15⟩)⟩
        · refine mv_iconst (v := 1) d_TrustDeskModel_isPerson_10 (by decide) ?_
          refine mv_goto (tgt := 15) d_TrustDeskModel_isPerson_11 (by decide) ?_
          refine mv_iret d_TrustDeskModel_isPerson_15 rfl (by decide) ?_
          refine mv_if_eq_f (tgt := 41) d_TrustDeskModel_objects_17 (by decide) (by decide) ?_
          refine mv_aload_n d_TrustDeskModel_objects_20 rfl rfl ?_
          obtain ⟨a24, q23, t_a24⟩ := tm_atR I5 h_o0 (k := 59) rfl
          refine tr_getK q23 d_TrustDeskModel_objects_21 f_TrustDeskModel_137_13 ?_
          refine mv_iload_n d_TrustDeskModel_objects_24 rfl rfl ?_
          refine tr_ialdR (o := o0) (k := 59) I5 q23 t_a24 (by decide) d_TrustDeskModel_objects_25 (vp_in_iff.mpr (by have := R8.1 1 _ _ rfl; have := R8.1 53 _ _ rfl; omega)) (fun v25 e26 => ?_)
          have : v25.toInt = ra M0 o0 59 ((x1.toInt).toNat) := by rw [e26, show x1.toNatClampNeg = (x1.toInt).toNat from by have := mz_nat9 (i := x1) (by have := R8.1 1 _ _ rfl; have := R8.1 53 _ _ rfl; omega); have := R8.1 1 _ _ rfl; have := R8.1 53 _ _ rfl; omega]; exact congrFun (K14 59 rfl) _
          have := mz_hi v25
          refine mv_if_neZ (tgt := 41) (a := v25.toInt) d_TrustDeskModel_objects_26 (by decide) rfl (fun b27 => ?_) (fun b27 => ?_)
          · refine mv_iconst (v := 0) d_TrustDeskModel_objects_41 (by decide) ?_
            exact mv_iret d_TrustDeskModel_objects_42 rfl (by decide) ⟨_, I5, _, rfl, by decide, by decide, R8, (Or.inl ⟨by decide, by omega, K15⟩)⟩
          · refine mv_aload_n d_TrustDeskModel_objects_29 rfl rfl ?_
            obtain ⟨v29, q28⟩ := tm_atI I5 h_o0 (k := 1) rfl
            refine tr_getK q28 d_TrustDeskModel_objects_30 f_TrustDeskModel_164_13 ?_
            have := R8.f (k := 1) q28 rfl
            have := (tm_rv q28).symm.trans z11
            have := tm_rv q28
            refine mv_aload_n d_TrustDeskModel_objects_33 rfl rfl ?_
            refine mv_iload_n d_TrustDeskModel_objects_34 rfl rfl ?_
            obtain ⟨_, b30, -⟩ := I5.1 _ _ h_o0
            refine mv_callV (kc1 := 0) (ks1 := 0) (kc' := 0) (ks' := 0) (As := [.int x1]) (st9 := [.int x1, .ref o0, .int v29]) d_TrustDeskModel_objects_35 lV_TrustDeskModel_509 b30 rfl (mj_enter (by decide) (Nat.le_of_ble_eq_true rfl) ?_) rfl (Nat.le_of_ble_eq_true rfl) (Nat.le_of_ble_eq_true rfl) (Nat.le_of_ble_eq_true rfl) (hst := rfl) (fun _ _ _ h => h)
            refine mv_aload_n d_TrustDeskModel_lastDay_0 rfl rfl ?_
            obtain ⟨a32, q31, t_a32⟩ := tm_atR I5 h_o0 (k := 58) rfl
            refine tr_getK q31 d_TrustDeskModel_lastDay_1 f_TrustDeskModel_134_13 ?_
            refine mv_iload_n d_TrustDeskModel_lastDay_4 rfl rfl ?_
            refine tr_ialdR (o := o0) (k := 58) I5 q31 t_a32 (by decide) d_TrustDeskModel_lastDay_5 (vp_in_iff.mpr (by have := R8.1 1 _ _ rfl; have := R8.1 53 _ _ rfl; omega)) (fun v33 e34 => ?_)
            have : v33.toInt = ra M0 o0 58 ((x1.toInt).toNat) := by rw [e34, show x1.toNatClampNeg = (x1.toInt).toNat from by have := mz_nat9 (i := x1) (by have := R8.1 1 _ _ rfl; have := R8.1 53 _ _ rfl; omega); have := R8.1 1 _ _ rfl; have := R8.1 53 _ _ rfl; omega]; exact congrFun (K13 58 rfl) _
            refine mv_iret d_TrustDeskModel_lastDay_6 rfl (by first | rfl | decide) ?_
            have := mz_hi v29
            have := mz_hi v33
            refine mv_icmp_leZ (tgt := 43) (a := v29.toInt) (b := v33.toInt) d_TrustDeskModel_objects_38 (by decide) rfl rfl (fun b35 => ?_) (fun b35 => ?_)
            · refine mv_aload_n d_TrustDeskModel_objects_43 rfl rfl ?_
              obtain ⟨a37, q36, t_a37⟩ := tm_atR I5 h_o0 (k := 61) rfl
              refine tr_getK q36 d_TrustDeskModel_objects_44 f_TrustDeskModel_143_13 ?_
              refine mv_bipush (v := 100) d_TrustDeskModel_objects_47 (by decide) ?_
              refine mv_iload_n d_TrustDeskModel_objects_49 rfl rfl ?_
              refine mv_imul d_TrustDeskModel_objects_50 ?_
              refine mv_iload_n d_TrustDeskModel_objects_51 rfl rfl ?_
              refine mv_iadd d_TrustDeskModel_objects_52 ?_
              have b38 : (100 * x1 : Int32).toInt = (100 * x1.toInt) := mz_mul2 (by decide) rfl (by have := R8.1 1 _ _ rfl; have := R8.1 53 _ _ rfl; omega) (by have := R8.1 1 _ _ rfl; have := R8.1 53 _ _ rfl; omega)
              have b39 : ((100 * x1) + x2 : Int32).toInt = ((100 * x1.toInt) + x2.toInt) := mz_add2 b38 rfl (by have := R8.1 1 _ _ rfl; have := R8.1 53 _ _ rfl; omega) (by have := R8.1 1 _ _ rfl; have := R8.1 53 _ _ rfl; omega)
              refine tr_zaldR (o := o0) (k := 61) I5 q36 t_a37 (by decide) d_TrustDeskModel_objects_53 (vp_in_iff.mpr (by have := R8.1 1 _ _ rfl; have := R8.1 53 _ _ rfl; omega)) (fun v40 e41 => ?_)
              have : v40.toInt = ra M0 o0 61 (100 * x1.toInt + x2.toInt).toNat := by rw [e41, show ((100 * x1) + x2).toNatClampNeg = (100 * x1.toInt + x2.toInt).toNat from by have := mz_nat9 (i := ((100 * x1) + x2)) (by have := R8.1 1 _ _ rfl; have := R8.1 53 _ _ rfl; omega); omega]; exact K15 _
              have := mz_hi v40
              refine mv_if_neZ (tgt := 67) (a := v40.toInt) d_TrustDeskModel_objects_54 (by decide) rfl (fun b42 => ?_) (fun b42 => ?_)
              · refine mv_iconst (v := 0) d_TrustDeskModel_objects_67 (by decide) ?_
                exact mv_iret d_TrustDeskModel_objects_68 rfl (by decide) ⟨_, I5, _, rfl, by decide, by decide, R8, (Or.inl ⟨by decide, by omega, K15⟩)⟩
              · refine mv_aload_n d_TrustDeskModel_objects_57 rfl rfl ?_
                refine mv_iload_n d_TrustDeskModel_objects_58 rfl rfl ?_
                obtain ⟨_, b49, -⟩ := I5.1 _ _ h_o0
                refine mv_callV (kc' := 0) (ks' := 0) (As := [.int x1]) (st9 := [.int x1, .ref o0]) d_TrustDeskModel_objects_59 lV_TrustDeskModel_512 b49 rfl (tc_TrustDeskModel_against_h (d := d) (x9 := x9) (o0 := o0) (x1 := x1) h_o0 (by have := R8.1 1 _ _ rfl; have := R8.1 53 _ _ rfl; omega) R8 I5.start) rfl (Nat.le_of_ble_eq_true rfl) (Nat.le_of_ble_eq_true rfl) (Nat.le_of_ble_eq_true rfl) (hst := rfl) (fun b43r M44 n45 b43 => ?_)
                obtain ⟨T46, J47, v50, rfl, R51, f52⟩ := b43
                have I48 := I5.call J47 (tm_sub (by decide)) (Or.inl rfl)
                have t53 := J47.up h_o0
                have z54 := (rv_c I5 J47 (I5.up h_o0) (k := 1) rfl).trans z11
                have z55 := (rv_c I5 J47 (I5.up h_o0) (k := 53) rfl).trans z12
                have K56 : sA [58] M0 M44 o0 := K13.trans (sA_c I5 J47 (I5.up h_o0) (by decide +kernel))
                have K57 : sA [59] M0 M44 o0 := K14.trans (sA_c I5 J47 (I5.up h_o0) (by decide +kernel))
                have K58 : ∀ i, ra M44 o0 61 i = ra M0 o0 61 i := (fun i => (congrFun (((sA_c I5 J47 (I5.up h_o0) (by decide +kernel)) : sA [61] _ _ _) 61 rfl) i).trans (K15 i))
                have : v50.toInt = p_cn (fun y => ra M0 o0 61 (100 * (x1.toInt).toNat + y)) 100 := f52.trans (p_cn_cg 100 (fun i _ => K15 _))
                clear z11 z12
                have q59 := J47.keep h_o0 (by decide) q6
                have q60 := J47.keep h_o0 (by decide) q18
                have q61 := J47.keep h_o0 (by decide) q23
                have t62 := J47.up t_a24
                have q63 := J47.keep h_o0 (by decide) q28
                have q64 := J47.keep h_o0 (by decide) q31
                have t65 := J47.up t_a32
                have q66 := J47.keep h_o0 (by decide) q36
                have t67 := J47.up t_a37
                refine mv_bipush (v := 10) d_TrustDeskModel_objects_62 (by decide) ?_
                have := mz_hi v50
                refine mv_icmp_neZ (tgt := 69) (a := v50.toInt) (b := 10) d_TrustDeskModel_objects_64 (by decide) rfl (by decide) (fun b68 => ?_) (fun b68 => ?_)
                · refine mv_aload_n d_TrustDeskModel_objects_69 rfl rfl ?_
                  refine tr_getK (k := 61) q66 d_TrustDeskModel_objects_70 f_TrustDeskModel_143_13 ?_
                  refine mv_bipush (v := 100) d_TrustDeskModel_objects_73 (by decide) ?_
                  refine mv_iload_n d_TrustDeskModel_objects_75 rfl rfl ?_
                  refine mv_imul d_TrustDeskModel_objects_76 ?_
                  refine mv_iload_n d_TrustDeskModel_objects_77 rfl rfl ?_
                  refine mv_iadd d_TrustDeskModel_objects_78 ?_
                  refine mv_iconst (v := 1) d_TrustDeskModel_objects_79 (by decide) ?_
                  have b69 : (100 * x1 : Int32).toInt = (100 * x1.toInt) := mz_mul2 (by decide) rfl (by have := R51.1 1 _ _ rfl; have := R51.1 53 _ _ rfl; omega) (by have := R51.1 1 _ _ rfl; have := R51.1 53 _ _ rfl; omega)
                  have b70 : ((100 * x1) + x2 : Int32).toInt = ((100 * x1.toInt) + x2.toInt) := mz_add2 b69 rfl (by have := R51.1 1 _ _ rfl; have := R51.1 53 _ _ rfl; omega) (by have := R51.1 1 _ _ rfl; have := R51.1 53 _ _ rfl; omega)
                  refine tr_zastE (k := 61) I48 R51 (I48.up h_o0) q66 t67 (by decide) (by decide) (fun lo hi h => by cases h) (Or.inl (by decide)) d_TrustDeskModel_objects_80 (vp_in_iff.mpr (by omega)) (fun M71 I72 K73 R74 E75 A76 V77 => ?_)
                  have z78 := (V77 1).trans z54
                  have z79 := (V77 53).trans z55
                  have K80 : sA [58] M0 M71 o0 := K56.trans (sA_a A76 (by decide +kernel))
                  have K81 : sA [59] M0 M71 o0 := K57.trans (sA_a A76 (by decide +kernel))
                  have K82 : ∀ i, ra M71 o0 61 i = if i = (100 * x1.toInt + x2.toInt).toNat then 1 else ra M0 o0 61 i := (fun i => (E75 i).trans (by rw [show ((100 * x1) + x2).toNatClampNeg = (100 * x1.toInt + x2.toInt).toNat from by have := mz_nat9 (i := ((100 * x1) + x2)) (by have := R51.1 1 _ _ rfl; have := R51.1 53 _ _ rfl; omega); omega, show (vp_nar .boolean 1).toInt = 1 from by decide, K58 i]))
                  clear z54 z55
                  refine mv_iconst (v := 1) d_TrustDeskModel_objects_81 (by decide) ?_
                  exact mv_iret d_TrustDeskModel_objects_82 rfl (by decide) ⟨_, I72, _, rfl, by decide, by decide, R74, (Or.inr ⟨by decide, by omega, K82⟩)⟩
                · refine mv_iconst (v := 0) d_TrustDeskModel_objects_67 (by decide) ?_
                  exact mv_iret d_TrustDeskModel_objects_68 rfl (by decide) ⟨_, I48, _, rfl, by decide, by decide, R51, (Or.inl ⟨by decide, by omega, K58⟩)⟩
            · refine mv_iconst (v := 0) d_TrustDeskModel_objects_41 (by decide) ?_
              exact mv_iret d_TrustDeskModel_objects_42 rfl (by decide) ⟨_, I5, _, rfl, by decide, by decide, R8, (Or.inl ⟨by decide, by omega, K15⟩)⟩
def w_TrustDeskModel_withdraws_h : List Nat := [1300, 20061]
set_option maxHeartbeats 100000000 in theorem tc_TrustDeskModel_withdraws_h {g : mj_G} {l : Launch} {d : Nat} {T0 : tm_H} {M0 : mj_M} {n0 x9 : Nat} {o0 : Nat} {x1 : Int32} {x2 : Int32} (h_o0 : T0 o0 = some (0, 13, 0)) (yR : rI M0 o0) (I0 : tm_I tm_FT (tm_in w_TrustDeskModel_withdraws_h) x9 T0 M0 n0 T0 M0 n0) : mj_Met g l kY_TrustDeskModel_withdraws (d + 1) [.ref o0, .int x1, .int x2] M0 n0 0 0 (tm_Q tm_FT (tm_in w_TrustDeskModel_withdraws_h) x9 T0 M0 n0 (fun r _ M => ∃ v : Int32, r = some (.int v) ∧ 0 ≤ v.toInt ∧ v.toInt ≤ 1 ∧ rI M o0 ∧ ((v.toInt = 0 ∧ ¬ (0 ≤ x1.toInt ∧ x1.toInt < rv M0 o0 53 ∧ 0 ≤ x2.toInt ∧ x2.toInt ≤ 99 ∧ ra M0 o0 59 (x1.toInt).toNat = 0 ∧ ra M0 o0 61 (100 * x1.toInt + x2.toInt).toNat ≠ 0) ∧ ∀ i, ra M o0 61 i = ra M0 o0 61 i) ∨ (v.toInt = 1 ∧ (0 ≤ x1.toInt ∧ x1.toInt < rv M0 o0 53 ∧ 0 ≤ x2.toInt ∧ x2.toInt ≤ 99 ∧ ra M0 o0 59 (x1.toInt).toNat = 0 ∧ ra M0 o0 61 (100 * x1.toInt + x2.toInt).toNat ≠ 0) ∧ ∀ i, ra M o0 61 i = if i = (100 * x1.toInt + x2.toInt).toNat then 0 else ra M0 o0 61 i)))) := by
  refine mj_enter (by decide) (Nat.le_of_ble_eq_true rfl) ?_
  have K1 : sA [58] M0 M0 o0 := sA.rf
  have K2 : sA [59] M0 M0 o0 := sA.rf
  have K3 : ∀ i, ra M0 o0 61 i = ra M0 o0 61 i := (fun _ => rfl)
  refine mv_aload_n d_TrustDeskModel_withdraws_0 rfl rfl ?_
  refine mv_iconst (v := 0) d_TrustDeskModel_withdraws_1 (by decide) ?_
  refine tr_putR (k := 0) I0 yR h_o0 rfl ⟨_, rfl⟩ (fun _ h => by cases h) rfl (fun lo hi h => by cases h) (Or.inl (by decide)) d_TrustDeskModel_withdraws_2 p_TrustDeskModel_1_13 rfl rfl (fun M4 I5 q6 K7 R8 A9 V10 => ?_)
  have z11 := (V10 1 (by decide))
  have z12 := (V10 53 (by decide))
  have K13 : sA [58] M0 M4 o0 := K1.trans (sA_f A9 (by decide))
  have K14 : sA [59] M0 M4 o0 := K2.trans (sA_f A9 (by decide))
  have K15 : ∀ i, ra M4 o0 61 i = ra M0 o0 61 i := (fun i => (congrFun (((sA_f A9 (by decide)) : sA [61] _ _ _) 61 rfl) i).trans (K3 i))
  refine mv_aload_n d_TrustDeskModel_withdraws_5 rfl rfl ?_
  refine mv_iload_n d_TrustDeskModel_withdraws_6 rfl rfl ?_
  obtain ⟨_, b16, -⟩ := I5.1 _ _ h_o0
  refine mv_callV (kc1 := 0) (ks1 := 0) (kc' := 0) (ks' := 0) (As := [.int x1]) (st9 := [.int x1, .ref o0]) d_TrustDeskModel_withdraws_7 lV_TrustDeskModel_506 b16 rfl (mj_enter (by decide) (Nat.le_of_ble_eq_true rfl) ?_) rfl (Nat.le_of_ble_eq_true rfl) (Nat.le_of_ble_eq_true rfl) (Nat.le_of_ble_eq_true rfl) (hst := rfl) (fun _ _ _ h => h)
  refine mv_iload_n d_TrustDeskModel_isScheme_0 rfl rfl ?_
  have := mz_hi x1
  refine mv_if_ltZ (tgt := 16) (a := x1.toInt) d_TrustDeskModel_isScheme_1 (by decide) rfl (fun b17 => ?_) (fun b17 => ?_)
  · refine mv_iconst (v := 0) d_TrustDeskModel_isScheme_16 (by decide) ?_
    refine mv_iret d_TrustDeskModel_isScheme_17 rfl (by decide) ?_
    refine mv_if_eq_t (tgt := 43) d_TrustDeskModel_withdraws_10 (by decide) (by decide) ?_
    refine mv_iconst (v := 0) d_TrustDeskModel_withdraws_43 (by decide) ?_
    exact mv_iret d_TrustDeskModel_withdraws_44 rfl (by decide) ⟨_, I5, _, rfl, by decide, by decide, R8, (Or.inl ⟨by decide, by omega, K15⟩)⟩
  · refine mv_iload_n d_TrustDeskModel_isScheme_4 rfl rfl ?_
    refine mv_aload_n d_TrustDeskModel_isScheme_5 rfl rfl ?_
    obtain ⟨v19, q18⟩ := tm_atI I5 h_o0 (k := 53) rfl
    refine tr_getK q18 d_TrustDeskModel_isScheme_6 f_TrustDeskModel_501_13 ?_
    have := R8.f (k := 53) q18 rfl
    have := (tm_rv q18).symm.trans z12
    have := tm_rv q18
    have := mz_hi x1
    have := mz_hi v19
    refine mv_icmp_geZ (tgt := 16) (a := x1.toInt) (b := v19.toInt) d_TrustDeskModel_isScheme_9 (by decide) rfl rfl (fun b20 => ?_) (fun b20 => ?_)
    · refine mv_iconst (v := 0) d_TrustDeskModel_isScheme_16 (by decide) ?_
      refine mv_iret d_TrustDeskModel_isScheme_17 rfl (by decide) ?_
      refine mv_if_eq_t (tgt := 43) d_TrustDeskModel_withdraws_10 (by decide) (by decide) ?_
      refine mv_iconst (v := 0) d_TrustDeskModel_withdraws_43 (by decide) ?_
      exact mv_iret d_TrustDeskModel_withdraws_44 rfl (by decide) ⟨_, I5, _, rfl, by decide, by decide, R8, (Or.inl ⟨by decide, by omega, K15⟩)⟩
    · refine mv_iconst (v := 1) d_TrustDeskModel_isScheme_12 (by decide) ?_
      refine mv_goto (tgt := 17) d_TrustDeskModel_isScheme_13 (by decide) ?_
      refine mv_iret d_TrustDeskModel_isScheme_17 rfl (by decide) ?_
      refine mv_if_eq_f (tgt := 43) d_TrustDeskModel_withdraws_10 (by decide) (by decide) ?_
      refine mv_iload_n d_TrustDeskModel_withdraws_13 rfl rfl ?_
      refine mv_callS (kc1 := 0) (ks1 := 0) (kc' := 0) (ks' := 0) (As := [.int x2]) (st9 := [.int x2]) d_TrustDeskModel_withdraws_14 lS_TrustDeskModel_495 (mj_enter (by decide) (Nat.le_of_ble_eq_true rfl) ?_) rfl (Nat.le_of_ble_eq_true rfl) (Nat.le_of_ble_eq_true rfl) (Nat.le_of_ble_eq_true rfl) (hst := rfl) (fun _ _ _ h => h)
      refine mv_iload_n d_TrustDeskModel_isPerson_0 rfl rfl ?_
      have := mz_hi x2
      refine mv_if_ltZ (tgt := 14) (a := x2.toInt) d_TrustDeskModel_isPerson_1 (by decide) rfl (fun b21 => ?_) (fun b21 => ?_)
      · refine mv_iconst (v := 0) d_TrustDeskModel_isPerson_14 (by decide) ?_
        refine mv_iret d_TrustDeskModel_isPerson_15 rfl (by decide) ?_
        refine mv_if_eq_t (tgt := 43) d_TrustDeskModel_withdraws_17 (by decide) (by decide) ?_
        refine mv_iconst (v := 0) d_TrustDeskModel_withdraws_43 (by decide) ?_
        exact mv_iret d_TrustDeskModel_withdraws_44 rfl (by decide) ⟨_, I5, _, rfl, by decide, by decide, R8, (Or.inl ⟨by decide, by omega, K15⟩)⟩
      · refine mv_iload_n d_TrustDeskModel_isPerson_4 rfl rfl ?_
        refine mv_bipush (v := 100) d_TrustDeskModel_isPerson_5 (by decide) ?_
        have := mz_hi x2
        refine mv_icmp_geZ (tgt := 14) (a := x2.toInt) (b := 100) d_TrustDeskModel_isPerson_7 (by decide) rfl (by decide) (fun b22 => ?_) (fun b22 => ?_)
        · refine mv_iconst (v := 0) d_TrustDeskModel_isPerson_14 (by decide) ?_
          refine mv_iret d_TrustDeskModel_isPerson_15 rfl (by decide) ?_
          refine mv_if_eq_t (tgt := 43) d_TrustDeskModel_withdraws_17 (by decide) (by decide) ?_
          refine mv_iconst (v := 0) d_TrustDeskModel_withdraws_43 (by decide) ?_
          exact mv_iret d_TrustDeskModel_withdraws_44 rfl (by decide) ⟨_, I5, _, rfl, by decide, by decide, R8, (Or.inl ⟨by decide, by omega, K15⟩)⟩
        · refine mv_iconst (v := 1) d_TrustDeskModel_isPerson_10 (by decide) ?_
          refine mv_goto (tgt := 15) d_TrustDeskModel_isPerson_11 (by decide) ?_
          refine mv_iret d_TrustDeskModel_isPerson_15 rfl (by decide) ?_
          refine mv_if_eq_f (tgt := 43) d_TrustDeskModel_withdraws_17 (by decide) (by decide) ?_
          refine mv_aload_n d_TrustDeskModel_withdraws_20 rfl rfl ?_
          obtain ⟨a24, q23, t_a24⟩ := tm_atR I5 h_o0 (k := 59) rfl
          refine tr_getK q23 d_TrustDeskModel_withdraws_21 f_TrustDeskModel_137_13 ?_
          refine mv_iload_n d_TrustDeskModel_withdraws_24 rfl rfl ?_
          refine tr_ialdR (o := o0) (k := 59) I5 q23 t_a24 (by decide) d_TrustDeskModel_withdraws_25 (vp_in_iff.mpr (by have := R8.1 1 _ _ rfl; have := R8.1 53 _ _ rfl; omega)) (fun v25 e26 => ?_)
          have : v25.toInt = ra M0 o0 59 ((x1.toInt).toNat) := by rw [e26, show x1.toNatClampNeg = (x1.toInt).toNat from by have := mz_nat9 (i := x1) (by have := R8.1 1 _ _ rfl; have := R8.1 53 _ _ rfl; omega); have := R8.1 1 _ _ rfl; have := R8.1 53 _ _ rfl; omega]; exact congrFun (K14 59 rfl) _
          have := mz_hi v25
          refine mv_if_neZ (tgt := 43) (a := v25.toInt) d_TrustDeskModel_withdraws_26 (by decide) rfl (fun b27 => ?_) (fun b27 => ?_)
          · refine mv_iconst (v := 0) d_TrustDeskModel_withdraws_43 (by decide) ?_
            exact mv_iret d_TrustDeskModel_withdraws_44 rfl (by decide) ⟨_, I5, _, rfl, by decide, by decide, R8, (Or.inl ⟨by decide, by omega, K15⟩)⟩
          · refine mv_aload_n d_TrustDeskModel_withdraws_29 rfl rfl ?_
            obtain ⟨a29, q28, t_a29⟩ := tm_atR I5 h_o0 (k := 61) rfl
            refine tr_getK q28 d_TrustDeskModel_withdraws_30 f_TrustDeskModel_143_13 ?_
            refine mv_bipush (v := 100) d_TrustDeskModel_withdraws_33 (by decide) ?_
            refine mv_iload_n d_TrustDeskModel_withdraws_35 rfl rfl ?_
            refine mv_imul d_TrustDeskModel_withdraws_36 ?_
            refine mv_iload_n d_TrustDeskModel_withdraws_37 rfl rfl ?_
            refine mv_iadd d_TrustDeskModel_withdraws_38 ?_
            have b30 : (100 * x1 : Int32).toInt = (100 * x1.toInt) := mz_mul2 (by decide) rfl (by have := R8.1 1 _ _ rfl; have := R8.1 53 _ _ rfl; omega) (by have := R8.1 1 _ _ rfl; have := R8.1 53 _ _ rfl; omega)
            have b31 : ((100 * x1) + x2 : Int32).toInt = ((100 * x1.toInt) + x2.toInt) := mz_add2 b30 rfl (by have := R8.1 1 _ _ rfl; have := R8.1 53 _ _ rfl; omega) (by have := R8.1 1 _ _ rfl; have := R8.1 53 _ _ rfl; omega)
            refine tr_zaldR (o := o0) (k := 61) I5 q28 t_a29 (by decide) d_TrustDeskModel_withdraws_39 (vp_in_iff.mpr (by have := R8.1 1 _ _ rfl; have := R8.1 53 _ _ rfl; omega)) (fun v32 e33 => ?_)
            have : v32.toInt = ra M0 o0 61 (100 * x1.toInt + x2.toInt).toNat := by rw [e33, show ((100 * x1) + x2).toNatClampNeg = (100 * x1.toInt + x2.toInt).toNat from by have := mz_nat9 (i := ((100 * x1) + x2)) (by have := R8.1 1 _ _ rfl; have := R8.1 53 _ _ rfl; omega); omega]; exact K15 _
            have := mz_hi v32
            refine mv_if_neZ (tgt := 45) (a := v32.toInt) d_TrustDeskModel_withdraws_40 (by decide) rfl (fun b34 => ?_) (fun b34 => ?_)
            · refine mv_aload_n d_TrustDeskModel_withdraws_45 rfl rfl ?_
              refine tr_getK (k := 61) q28 d_TrustDeskModel_withdraws_46 f_TrustDeskModel_143_13 ?_
              refine mv_bipush (v := 100) d_TrustDeskModel_withdraws_49 (by decide) ?_
              refine mv_iload_n d_TrustDeskModel_withdraws_51 rfl rfl ?_
              refine mv_imul d_TrustDeskModel_withdraws_52 ?_
              refine mv_iload_n d_TrustDeskModel_withdraws_53 rfl rfl ?_
              refine mv_iadd d_TrustDeskModel_withdraws_54 ?_
              refine mv_iconst (v := 0) d_TrustDeskModel_withdraws_55 (by decide) ?_
              have b35 : (100 * x1 : Int32).toInt = (100 * x1.toInt) := mz_mul2 (by decide) rfl (by have := R8.1 1 _ _ rfl; have := R8.1 53 _ _ rfl; omega) (by have := R8.1 1 _ _ rfl; have := R8.1 53 _ _ rfl; omega)
              have b36 : ((100 * x1) + x2 : Int32).toInt = ((100 * x1.toInt) + x2.toInt) := mz_add2 b35 rfl (by have := R8.1 1 _ _ rfl; have := R8.1 53 _ _ rfl; omega) (by have := R8.1 1 _ _ rfl; have := R8.1 53 _ _ rfl; omega)
              refine tr_zastE (k := 61) I5 R8 (I5.up h_o0) q28 t_a29 (by decide) (by decide) (fun lo hi h => by cases h) (Or.inl (by decide)) d_TrustDeskModel_withdraws_56 (vp_in_iff.mpr (by omega)) (fun M37 I38 K39 R40 E41 A42 V43 => ?_)
              have z44 := (V43 1).trans z11
              have z45 := (V43 53).trans z12
              have K46 : sA [58] M0 M37 o0 := K13.trans (sA_a A42 (by decide +kernel))
              have K47 : sA [59] M0 M37 o0 := K14.trans (sA_a A42 (by decide +kernel))
              have K48 : ∀ i, ra M37 o0 61 i = if i = (100 * x1.toInt + x2.toInt).toNat then 0 else ra M0 o0 61 i := (fun i => (E41 i).trans (by rw [show ((100 * x1) + x2).toNatClampNeg = (100 * x1.toInt + x2.toInt).toNat from by have := mz_nat9 (i := ((100 * x1) + x2)) (by have := R8.1 1 _ _ rfl; have := R8.1 53 _ _ rfl; omega); omega, show (vp_nar .boolean 0).toInt = 0 from by decide, K15 i]))
              clear z11 z12
              refine mv_iconst (v := 1) d_TrustDeskModel_withdraws_57 (by decide) ?_
              exact mv_iret d_TrustDeskModel_withdraws_58 rfl (by decide) ⟨_, I38, _, rfl, by decide, by decide, R40, (Or.inr ⟨by decide, by omega, K48⟩)⟩
            · refine mv_iconst (v := 0) d_TrustDeskModel_withdraws_43 (by decide) ?_
              exact mv_iret d_TrustDeskModel_withdraws_44 rfl (by decide) ⟨_, I5, _, rfl, by decide, by decide, R8, (Or.inl ⟨by decide, by omega, K15⟩)⟩
def w_TrustDeskModel_settle_h : List Nat := [1300, 1331, 20029, 20030, 20033, 20034, 20035, 20036, 20037, 20040, 20041, 20043, 20044, 20045, 20046, 20047, 20048, 20059, 20060]
set_option maxHeartbeats 100000000 in theorem tc_TrustDeskModel_settle_h {g : mj_G} {l : Launch} {d : Nat} {T0 : tm_H} {M0 : mj_M} {n0 x9 : Nat} {o0 : Nat} {x1 : Int32} (h_o0 : T0 o0 = some (0, 13, 0)) (yR : rI M0 o0) (yC : rC M0 o0 44) (yP : rP M0 o0) (yB : rB M0 o0 12) (yX : rX M0 o0) (I0 : tm_I tm_FT (tm_in w_TrustDeskModel_settle_h) x9 T0 M0 n0 T0 M0 n0) : mj_Met g l kY_TrustDeskModel_settle (d + 5) [.ref o0, .int x1] M0 n0 0 0 (tm_Q tm_FT (tm_in w_TrustDeskModel_settle_h) x9 T0 M0 n0 (fun r _ M => ∃ v : Int32, r = some (.int v) ∧ rI M o0 ∧ (rC M o0 44) ∧ (rP M o0) ∧ (rB M o0 12) ∧ (rX M o0) ∧ ((¬ (0 ≤ x1.toInt ∧ x1.toInt < rv M0 o0 53 ∧ ra M0 o0 59 (x1.toInt).toNat = 0 ∧ ra M0 o0 58 (x1.toInt).toNat < rv M0 o0 1) ∧ ∀ i, ra M o0 59 i = ra M0 o0 59 i) ∨ ((0 ≤ x1.toInt ∧ x1.toInt < rv M0 o0 53 ∧ ra M0 o0 59 (x1.toInt).toNat = 0 ∧ ra M0 o0 58 (x1.toInt).toNat < rv M0 o0 1) ∧ ra M o0 59 (x1.toInt).toNat ≠ 0 ∧ ∀ i, i ≠ (x1.toInt).toNat → ra M o0 59 i = ra M0 o0 59 i)))) := by
  refine mj_enter (by decide) (Nat.le_of_ble_eq_true rfl) ?_
  have K1 : rC M0 o0 44 := yC
  have K2 : rP M0 o0 := yP
  have K3 : rB M0 o0 12 := yB
  have K4 : rX M0 o0 := yX
  have K5 : ∀ i, ra M0 o0 59 i = ra M0 o0 59 i := (fun _ => rfl)
  have K6 : sA [58] M0 M0 o0 := sA.rf
  refine mv_aload_n d_TrustDeskModel_settle_0 rfl rfl ?_
  refine mv_iconst (v := 0) d_TrustDeskModel_settle_1 (by decide) ?_
  refine tr_putR (k := 0) I0 yR h_o0 rfl ⟨_, rfl⟩ (fun _ h => by cases h) rfl (fun lo hi h => by cases h) (Or.inl (by decide)) d_TrustDeskModel_settle_2 p_TrustDeskModel_1_13 rfl rfl (fun M7 I8 q9 K10 R11 A12 V13 => ?_)
  have z14 := (V13 1 (by decide))
  have z15 := (V13 53 (by decide))
  have K16 : rC M7 o0 44 := K1.same (sA_f A12 (by decide)) (sF_f V13 (by decide))
  have K17 : rP M7 o0 := K2.same (sA_f A12 (by decide)) (sF_f V13 (by decide))
  have K18 : rB M7 o0 12 := K3.same (sA_f A12 (by decide)) (sF_f V13 (by decide))
  have K19 : rX M7 o0 := K4.same (sA_f A12 (by decide)) (sF_f V13 (by decide))
  have K20 : ∀ i, ra M7 o0 59 i = ra M0 o0 59 i := (by have e9 := ((sA_f A12 (by decide)) : sA [59] _ _ _) 59 rfl; first | exact fun i => (congrFun e9 i).trans (K5 i) | exact fun i h9 => (congrFun e9 i).trans (K5 i h9))
  have K21 : sA [58] M0 M7 o0 := K6.trans (sA_f A12 (by decide))
  refine mv_aload_n d_TrustDeskModel_settle_5 rfl rfl ?_
  refine mv_iload_n d_TrustDeskModel_settle_6 rfl rfl ?_
  obtain ⟨_, b22, -⟩ := I8.1 _ _ h_o0
  refine mv_callV (kc1 := 0) (ks1 := 0) (kc' := 0) (ks' := 0) (As := [.int x1]) (st9 := [.int x1, .ref o0]) d_TrustDeskModel_settle_7 lV_TrustDeskModel_506 b22 rfl (mj_enter (by decide) (Nat.le_of_ble_eq_true rfl) ?_) rfl (Nat.le_of_ble_eq_true rfl) (Nat.le_of_ble_eq_true rfl) (Nat.le_of_ble_eq_true rfl) (hst := rfl) (fun _ _ _ h => h)
  refine mv_iload_n d_TrustDeskModel_isScheme_0 rfl rfl ?_
  have := mz_hi x1
  refine mv_if_ltZ (tgt := 16) (a := x1.toInt) d_TrustDeskModel_isScheme_1 (by decide) rfl (fun b23 => ?_) (fun b23 => ?_)
  · refine mv_iconst (v := 0) d_TrustDeskModel_isScheme_16 (by decide) ?_
    refine mv_iret d_TrustDeskModel_isScheme_17 rfl (by decide) ?_
    refine mv_if_eq_t (tgt := 34) d_TrustDeskModel_settle_10 (by decide) (by decide) ?_
    refine mv_iconst (v := (-1)) d_TrustDeskModel_settle_34 (by decide) ?_
    exact mv_iret d_TrustDeskModel_settle_35 rfl (by first | rfl | decide) ⟨_, I8, _, rfl, R11, K16, K17, K18, K19, (Or.inl ⟨by omega, K20⟩)⟩
  · refine mv_iload_n d_TrustDeskModel_isScheme_4 rfl rfl ?_
    refine mv_aload_n d_TrustDeskModel_isScheme_5 rfl rfl ?_
    obtain ⟨v25, q24⟩ := tm_atI I8 h_o0 (k := 53) rfl
    refine tr_getK q24 d_TrustDeskModel_isScheme_6 f_TrustDeskModel_501_13 ?_
    have := R11.f (k := 53) q24 rfl
    have := (tm_rv q24).symm.trans z15
    have := tm_rv q24
    have := mz_hi x1
    have := mz_hi v25
    refine mv_icmp_geZ (tgt := 16) (a := x1.toInt) (b := v25.toInt) d_TrustDeskModel_isScheme_9 (by decide) rfl rfl (fun b26 => ?_) (fun b26 => ?_)
    · refine mv_iconst (v := 0) d_TrustDeskModel_isScheme_16 (by decide) ?_
      refine mv_iret d_TrustDeskModel_isScheme_17 rfl (by decide) ?_
      refine mv_if_eq_t (tgt := 34) d_TrustDeskModel_settle_10 (by decide) (by decide) ?_
      refine mv_iconst (v := (-1)) d_TrustDeskModel_settle_34 (by decide) ?_
      exact mv_iret d_TrustDeskModel_settle_35 rfl (by first | rfl | decide) ⟨_, I8, _, rfl, R11, K16, K17, K18, K19, (Or.inl ⟨by omega, K20⟩)⟩
    · refine mv_iconst (v := 1) d_TrustDeskModel_isScheme_12 (by decide) ?_
      refine mv_goto (tgt := 17) d_TrustDeskModel_isScheme_13 (by decide) ?_
      refine mv_iret d_TrustDeskModel_isScheme_17 rfl (by decide) ?_
      refine mv_if_eq_f (tgt := 34) d_TrustDeskModel_settle_10 (by decide) (by decide) ?_
      refine mv_aload_n d_TrustDeskModel_settle_13 rfl rfl ?_
      obtain ⟨a28, q27, t_a28⟩ := tm_atR I8 h_o0 (k := 59) rfl
      refine tr_getK q27 d_TrustDeskModel_settle_14 f_TrustDeskModel_137_13 ?_
      refine mv_iload_n d_TrustDeskModel_settle_17 rfl rfl ?_
      refine tr_ialdR (o := o0) (k := 59) I8 q27 t_a28 (by decide) d_TrustDeskModel_settle_18 (vp_in_iff.mpr (by have := R11.1 1 _ _ rfl; have := R11.1 53 _ _ rfl; omega)) (fun v29 e30 => ?_)
      have : v29.toInt = ra M0 o0 59 (x1.toInt).toNat := by rw [e30, show x1.toNatClampNeg = (x1.toInt).toNat from by have := mz_nat9 (i := x1) (by have := R11.1 1 _ _ rfl; have := R11.1 53 _ _ rfl; omega); have := R11.1 1 _ _ rfl; have := R11.1 53 _ _ rfl; omega]; exact K20 _
      have := mz_hi v29
      refine mv_if_neZ (tgt := 34) (a := v29.toInt) d_TrustDeskModel_settle_19 (by decide) rfl (fun b31 => ?_) (fun b31 => ?_)
      · refine mv_iconst (v := (-1)) d_TrustDeskModel_settle_34 (by decide) ?_
        exact mv_iret d_TrustDeskModel_settle_35 rfl (by first | rfl | decide) ⟨_, I8, _, rfl, R11, K16, K17, K18, K19, (Or.inl ⟨by omega, K20⟩)⟩
      · refine mv_aload_n d_TrustDeskModel_settle_22 rfl rfl ?_
        obtain ⟨v33, q32⟩ := tm_atI I8 h_o0 (k := 1) rfl
        refine tr_getK q32 d_TrustDeskModel_settle_23 f_TrustDeskModel_164_13 ?_
        have := R11.f (k := 1) q32 rfl
        have := (tm_rv q32).symm.trans z14
        have := tm_rv q32
        refine mv_aload_n d_TrustDeskModel_settle_26 rfl rfl ?_
        refine mv_iload_n d_TrustDeskModel_settle_27 rfl rfl ?_
        obtain ⟨_, b34, -⟩ := I8.1 _ _ h_o0
        refine mv_callV (kc1 := 0) (ks1 := 0) (kc' := 0) (ks' := 0) (As := [.int x1]) (st9 := [.int x1, .ref o0, .int v33]) d_TrustDeskModel_settle_28 lV_TrustDeskModel_509 b34 rfl (mj_enter (by decide) (Nat.le_of_ble_eq_true rfl) ?_) rfl (Nat.le_of_ble_eq_true rfl) (Nat.le_of_ble_eq_true rfl) (Nat.le_of_ble_eq_true rfl) (hst := rfl) (fun _ _ _ h => h)
        refine mv_aload_n d_TrustDeskModel_lastDay_0 rfl rfl ?_
        obtain ⟨a36, q35, t_a36⟩ := tm_atR I8 h_o0 (k := 58) rfl
        refine tr_getK q35 d_TrustDeskModel_lastDay_1 f_TrustDeskModel_134_13 ?_
        refine mv_iload_n d_TrustDeskModel_lastDay_4 rfl rfl ?_
        refine tr_ialdR (o := o0) (k := 58) I8 q35 t_a36 (by decide) d_TrustDeskModel_lastDay_5 (vp_in_iff.mpr (by have := R11.1 1 _ _ rfl; have := R11.1 53 _ _ rfl; omega)) (fun v37 e38 => ?_)
        have : v37.toInt = ra M0 o0 58 ((x1.toInt).toNat) := by rw [e38, show x1.toNatClampNeg = (x1.toInt).toNat from by have := mz_nat9 (i := x1) (by have := R11.1 1 _ _ rfl; have := R11.1 53 _ _ rfl; omega); have := R11.1 1 _ _ rfl; have := R11.1 53 _ _ rfl; omega]; exact congrFun (K21 58 rfl) _
        refine mv_iret d_TrustDeskModel_lastDay_6 rfl (by first | rfl | decide) ?_
        have := mz_hi v33
        have := mz_hi v37
        refine mv_icmp_gtZ (tgt := 36) (a := v33.toInt) (b := v37.toInt) d_TrustDeskModel_settle_31 (by decide) rfl rfl (fun b39 => ?_) (fun b39 => ?_)
        · refine mv_aload_n d_TrustDeskModel_settle_36 rfl rfl ?_
          refine mv_iload_n d_TrustDeskModel_settle_37 rfl rfl ?_
          obtain ⟨_, b46, -⟩ := I8.1 _ _ h_o0
          refine mv_callV (kc' := 0) (ks' := 0) (As := [.int x1]) (st9 := [.int x1, .ref o0]) d_TrustDeskModel_settle_38 lV_TrustDeskModel_551 b46 rfl (tc_TrustDeskModel_failsBy_x (d := d) (x9 := x9) (o0 := o0) (x1 := x1) h_o0 (by have := R11.1 1 _ _ rfl; have := R11.1 53 _ _ rfl; omega) R11 K16 K19 (by have := R11.1 1 _ _ rfl; have := R11.1 53 _ _ rfl; omega) I8.start) rfl (Nat.le_of_ble_eq_true rfl) (Nat.le_of_ble_eq_true rfl) (Nat.le_of_ble_eq_true rfl) (hst := rfl) (fun b40r M41 n42 b40 => ?_)
          obtain ⟨T43, J44, v47, rfl, R48, f49⟩ := b40
          have I45 := I8.call J44 (tm_sub (by decide)) (Or.inl rfl)
          have t50 := J44.up h_o0
          replace f49 := Im.i f49
          have z51 := (rv_c I8 J44 (I8.up h_o0) (k := 1) rfl).trans z14
          have z52 := (rv_c I8 J44 (I8.up h_o0) (k := 53) rfl).trans z15
          have K53 : rC M41 o0 44 := K16.same (sA_c I8 J44 (I8.up h_o0) (by decide +kernel)) (sF_c I8 J44 (I8.up h_o0) (by decide +kernel))
          have K54 : rP M41 o0 := K17.same (sA_c I8 J44 (I8.up h_o0) (by decide +kernel)) (sF_c I8 J44 (I8.up h_o0) (by decide +kernel))
          have K55 : rB M41 o0 12 := K18.same (sA_c I8 J44 (I8.up h_o0) (by decide +kernel)) (sF_c I8 J44 (I8.up h_o0) (by decide +kernel))
          have K56 : rX M41 o0 := K19.same (sA_c I8 J44 (I8.up h_o0) (by decide +kernel)) (sF_c I8 J44 (I8.up h_o0) (by decide +kernel))
          have K57 : ∀ i, ra M41 o0 59 i = ra M0 o0 59 i := (by have e9 := ((sA_c I8 J44 (I8.up h_o0) (by decide +kernel)) : sA [59] _ _ _) 59 rfl; first | exact fun i => (congrFun e9 i).trans (K20 i) | exact fun i h9 => (congrFun e9 i).trans (K20 i h9))
          have K58 : sA [58] M0 M41 o0 := K21.trans (sA_c I8 J44 (I8.up h_o0) (by decide +kernel))
          have K59 : v47.toInt = 0 → rCB M41 o0 x1.toNatClampNeg := f49
          clear z14 z15
          have q60 := J44.keep h_o0 (by decide) q9
          have q61 := J44.keep h_o0 (by decide) q24
          have q62 := J44.keep h_o0 (by decide) q27
          have t63 := J44.up t_a28
          have q64 := J44.keep h_o0 (by decide) q32
          have q65 := J44.keep h_o0 (by decide) q35
          have t66 := J44.up t_a36
          refine mv_istore_n (lv' := [(2, .int v47), (0, .ref o0), (1, .int x1)]) d_TrustDeskModel_settle_41 rfl (by decide) rfl ?_
          refine mv_aload_n d_TrustDeskModel_settle_42 rfl rfl ?_
          obtain ⟨a68, q67, t_a68⟩ := tm_atR I45 t50 (k := 60) rfl
          refine tr_getK q67 d_TrustDeskModel_settle_43 f_TrustDeskModel_140_13 ?_
          refine mv_iload_n d_TrustDeskModel_settle_46 rfl rfl ?_
          refine mv_iload_n d_TrustDeskModel_settle_47 rfl rfl ?_
          refine tr_iastR (k := 60) I45 R48 (I45.up h_o0) q67 t_a68 (by decide) (by decide) (fun lo hi h => by cases h) (Or.inl (by decide)) d_TrustDeskModel_settle_48 (vp_in_iff.mpr (by have := R48.1 1 _ _ rfl; have := R48.1 53 _ _ rfl; omega)) (fun M69 I70 K71 R72 E73 A74 V75 => ?_)
          have z76 := (V75 1).trans z51
          have z77 := (V75 53).trans z52
          have K78 : rC M69 o0 44 := K53.same (sA_a A74 (by decide +kernel)) (sF_a V75)
          have K79 : rP M69 o0 := K54.same (sA_a A74 (by decide +kernel)) (sF_a V75)
          have K80 : rB M69 o0 12 := K55.same (sA_a A74 (by decide +kernel)) (sF_a V75)
          have K81 : rX M69 o0 := K56.same (sA_a A74 (by decide +kernel)) (sF_a V75)
          have K82 : ∀ i, ra M69 o0 59 i = ra M0 o0 59 i := (by have e9 := ((sA_a A74 (by decide +kernel)) : sA [59] _ _ _) 59 rfl; first | exact fun i => (congrFun e9 i).trans (K57 i) | exact fun i h9 => (congrFun e9 i).trans (K57 i h9))
          have K83 : sA [58] M0 M69 o0 := K58.trans (sA_a A74 (by decide +kernel))
          have K84 : v47.toInt = 0 → rCB M69 o0 x1.toNatClampNeg := (fun h9 => (K59 h9).same (sA_a A74 (by decide +kernel)) (sF_a V75))
          clear z51 z52
          refine mv_aload_n d_TrustDeskModel_settle_49 rfl rfl ?_
          refine tr_getK (k := 59) (K71 _ 13 59 _ q62) d_TrustDeskModel_settle_50 f_TrustDeskModel_137_13 ?_
          refine mv_iload_n d_TrustDeskModel_settle_53 rfl rfl ?_
          refine mv_iload_n d_TrustDeskModel_settle_54 rfl rfl ?_
          have := mz_hi v47
          refine mv_if_neZ (tgt := 62) (a := v47.toInt) d_TrustDeskModel_settle_55 (by decide) rfl (fun b85 => ?_) (fun b85 => ?_)
          · refine mv_iconst (v := 2) d_TrustDeskModel_settle_62 (by decide) ?_
            refine tr_iastR (k := 59) I70 R72 (I70.up h_o0) (K71 _ 13 59 _ q62) t63 (by decide) (by decide) (fun lo hi h => by cases h) (Or.inl (by decide)) d_TrustDeskModel_settle_63 (vp_in_iff.mpr (by have := R72.1 1 _ _ rfl; have := R72.1 53 _ _ rfl; omega)) (fun M86 I87 K88 R89 E90 A91 V92 => ?_)
            have z93 := (V92 1).trans z76
            have z94 := (V92 53).trans z77
            have h95 : (x1.toInt).toNat = x1.toNatClampNeg := by have := mz_nat9 (i := x1) (by have := R72.1 1 _ _ rfl; have := R72.1 53 _ _ rfl; omega); have := R72.1 1 _ _ rfl; have := R72.1 53 _ _ rfl; omega
            have z96 : ra M86 o0 59 ((x1.toInt).toNat) = 2 := (E90 _).trans (if_pos h95)
            have K97 : rC M86 o0 44 := K78.same (sA_a A91 (by decide +kernel)) (sF_a V92)
            have K98 : rP M86 o0 := K79.same (sA_a A91 (by decide +kernel)) (sF_a V92)
            have K99 : rB M86 o0 12 := K80.same (sA_a A91 (by decide +kernel)) (sF_a V92)
            have K100 : rX M86 o0 := K81.same (sA_a A91 (by decide +kernel)) (sF_a V92)
            have K101 : ∀ i, i ≠ (x1.toInt).toNat → ra M86 o0 59 i = ra M0 o0 59 i := (fun i h9 => (E90 i).trans ((if_neg (by rw [show x1.toNatClampNeg = (x1.toInt).toNat from by have := mz_nat9 (i := x1) (by have := R72.1 1 _ _ rfl; have := R72.1 53 _ _ rfl; omega); have := R72.1 1 _ _ rfl; have := R72.1 53 _ _ rfl; omega]; exact h9)).trans (K82 i)))
            have K102 : sA [58] M0 M86 o0 := K83.trans (sA_a A91 (by decide +kernel))
            have K103 : v47.toInt = 0 → rCB M86 o0 x1.toNatClampNeg := (fun h9 => (K84 h9).same (sA_a A91 (by decide +kernel)) (sF_a V92))
            clear z76 z77
            refine mv_iload_n d_TrustDeskModel_settle_64 rfl rfl ?_
            have := mz_hi v47
            refine mv_if_neZ (tgt := 73) (a := v47.toInt) d_TrustDeskModel_settle_65 (by decide) rfl (fun b104 => ?_) (fun b104 => absurd b104 (by omega))
            refine mv_iload_n d_TrustDeskModel_settle_73 rfl rfl ?_
            exact mv_iret d_TrustDeskModel_settle_74 rfl (by first | rfl | decide) ⟨_, I87, _, rfl, R89, K97, K98, K99, K100, (Or.inr ⟨by omega, by have e9 := z96; omega, K101⟩)⟩
          · refine mv_iconst (v := 1) d_TrustDeskModel_settle_58 (by decide) ?_
            refine mv_goto (tgt := 63) d_TrustDeskModel_settle_59 (by decide) ?_
            refine tr_iastR (k := 59) I70 R72 (I70.up h_o0) (K71 _ 13 59 _ q62) t63 (by decide) (by decide) (fun lo hi h => by cases h) (Or.inl (by decide)) d_TrustDeskModel_settle_63 (vp_in_iff.mpr (by have := R72.1 1 _ _ rfl; have := R72.1 53 _ _ rfl; omega)) (fun M105 I106 K107 R108 E109 A110 V111 => ?_)
            have z112 := (V111 1).trans z76
            have z113 := (V111 53).trans z77
            have h114 : (x1.toInt).toNat = x1.toNatClampNeg := by have := mz_nat9 (i := x1) (by have := R72.1 1 _ _ rfl; have := R72.1 53 _ _ rfl; omega); have := R72.1 1 _ _ rfl; have := R72.1 53 _ _ rfl; omega
            have z115 : ra M105 o0 59 ((x1.toInt).toNat) = 1 := (E109 _).trans (if_pos h114)
            have K116 : rC M105 o0 44 := K78.same (sA_a A110 (by decide +kernel)) (sF_a V111)
            have K117 : rP M105 o0 := K79.same (sA_a A110 (by decide +kernel)) (sF_a V111)
            have K118 : rB M105 o0 12 := K80.same (sA_a A110 (by decide +kernel)) (sF_a V111)
            have K119 : rX M105 o0 := K81.same (sA_a A110 (by decide +kernel)) (sF_a V111)
            have K120 : ∀ i, i ≠ (x1.toInt).toNat → ra M105 o0 59 i = ra M0 o0 59 i := (fun i h9 => (E109 i).trans ((if_neg (by rw [show x1.toNatClampNeg = (x1.toInt).toNat from by have := mz_nat9 (i := x1) (by have := R72.1 1 _ _ rfl; have := R72.1 53 _ _ rfl; omega); have := R72.1 1 _ _ rfl; have := R72.1 53 _ _ rfl; omega]; exact h9)).trans (K82 i)))
            have K121 : sA [58] M0 M105 o0 := K83.trans (sA_a A110 (by decide +kernel))
            have K122 : v47.toInt = 0 → rCB M105 o0 x1.toNatClampNeg := (fun h9 => (K84 h9).same (sA_a A110 (by decide +kernel)) (sF_a V111))
            clear z76 z77
            refine mv_iload_n d_TrustDeskModel_settle_64 rfl rfl ?_
            have := mz_hi v47
            refine mv_if_neZ (tgt := 73) (a := v47.toInt) d_TrustDeskModel_settle_65 (by decide) rfl (fun b123 => absurd b123 (by omega)) (fun b123 => ?_)
            refine mv_aload_n d_TrustDeskModel_settle_68 rfl rfl ?_
            refine mv_iload_n d_TrustDeskModel_settle_69 rfl rfl ?_
            obtain ⟨_, b130, -⟩ := I106.1 _ _ t50
            refine mv_callV (kc' := 0) (ks' := 0) (As := [.int x1]) (st9 := [.int x1, .ref o0]) d_TrustDeskModel_settle_70 lV_TrustDeskModel_554 b130 rfl (tc_TrustDeskModel_makes_x (d := d) (x9 := x9) (o0 := o0) (x1 := x1) t50 (by have := R108.1 1 _ _ rfl; have := R108.1 53 _ _ rfl; omega) R108 K116 K117 K118 K119 (by have := R108.1 1 _ _ rfl; have := R108.1 53 _ _ rfl; omega) (K122 (by omega)) I106.start) rfl (Nat.le_of_ble_eq_true rfl) (Nat.le_of_ble_eq_true rfl) (Nat.le_of_ble_eq_true rfl) (hst := rfl) (fun b124r M125 n126 b124 => ?_)
            obtain ⟨T127, J128, rfl, R131, f132, f133, f134⟩ := b124
            have I129 := I106.call J128 (tm_sub (by decide)) (Or.inl rfl)
            have t135 := J128.up t50
            have z136 := (rv_c I106 J128 (I106.up h_o0) (k := 1) rfl).trans z112
            have z137 := (rv_c I106 J128 (I106.up h_o0) (k := 53) rfl).trans z113
            have z138 := (ra_call I106 J128 (I106.up h_o0) (k := 59) rfl rfl rfl ((x1.toInt).toNat)).trans z115
            have K139 : rC M125 o0 44 := f132
            have K140 : rP M125 o0 := f133
            have K141 : rB M125 o0 12 := f134
            have K142 : rX M125 o0 := K119.same (sA_c I106 J128 (I106.up h_o0) (by decide +kernel)) (sF_c I106 J128 (I106.up h_o0) (by decide +kernel))
            have K143 : ∀ i, i ≠ (x1.toInt).toNat → ra M125 o0 59 i = ra M0 o0 59 i := (by have e9 := ((sA_c I106 J128 (I106.up h_o0) (by decide +kernel)) : sA [59] _ _ _) 59 rfl; first | exact fun i => (congrFun e9 i).trans (K120 i) | exact fun i h9 => (congrFun e9 i).trans (K120 i h9))
            have K144 : sA [58] M0 M125 o0 := K121.trans (sA_c I106 J128 (I106.up h_o0) (by decide +kernel))
            clear z112 z113 z115
            have q145 := J128.keep t50 (by decide) (K107 _ 13 0 _ (K71 _ 13 0 _ q60))
            have q146 := J128.keep t50 (by decide) (K107 _ 13 53 _ (K71 _ 13 53 _ q61))
            have q147 := J128.keep t50 (by decide) (K107 _ 13 59 _ (K71 _ 13 59 _ q62))
            have t148 := J128.up t63
            have q149 := J128.keep t50 (by decide) (K107 _ 13 1 _ (K71 _ 13 1 _ q64))
            have q150 := J128.keep t50 (by decide) (K107 _ 13 58 _ (K71 _ 13 58 _ q65))
            have t151 := J128.up t66
            have q152 := J128.keep t50 (by decide) (K107 _ 13 60 _ (K71 _ 13 60 _ q67))
            have t153 := J128.up t_a68
            refine mv_iload_n d_TrustDeskModel_settle_73 rfl rfl ?_
            exact mv_iret d_TrustDeskModel_settle_74 rfl (by first | rfl | decide) ⟨_, I129, _, rfl, R131, K139, K140, K141, K142, (Or.inr ⟨by omega, by have e9 := z138; omega, K143⟩)⟩
        · refine mv_iconst (v := (-1)) d_TrustDeskModel_settle_34 (by decide) ?_
          exact mv_iret d_TrustDeskModel_settle_35 rfl (by first | rfl | decide) ⟨_, I8, _, rfl, R11, K16, K17, K18, K19, (Or.inl ⟨by omega, K20⟩)⟩
