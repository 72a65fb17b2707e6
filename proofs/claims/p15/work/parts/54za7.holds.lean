def w_TrustDeskModel_actOn_a : List Nat := []
set_option maxHeartbeats 100000000 in theorem tc_TrustDeskModel_actOn_a {g : mj_G} {l : Launch} {d : Nat} {T0 : tm_H} {M0 : mj_M} {n0 x9 : Nat} {o0 : Nat} {x1 : Int32} (h_o0 : T0 o0 = some (0, 13, 0)) (yR : rI M0 o0) (I0 : tm_I tm_FT (tm_in w_TrustDeskModel_actOn_a) x9 T0 M0 n0 T0 M0 n0) : mj_Met g l kY_TrustDeskModel_actOn d [.ref o0, .int x1] M0 n0 0 0 (tm_Q tm_FT (tm_in w_TrustDeskModel_actOn_a) x9 T0 M0 n0 (fun r _ M => ∃ v : Int32, r = some (.int v) ∧ rI M o0 ∧ (-1 ≤ v.toInt ∧ v.toInt ≤ 19) ∧ (v.toInt = p_on (ra M0 o0 28) x1.toInt (rv M0 o0 27).toNat))) := by
  refine mj_enter (by decide) (Nat.le_of_ble_eq_true rfl) ?_
  have K1 : sA [28] M0 M0 o0 := sA.rf
  refine mv_iconst (v := (-1)) d_TrustDeskModel_actOn_0 (by decide) ?_
  refine mv_istore_n (lv' := [(2, .int (-1)), (0, .ref o0), (1, .int x1)]) d_TrustDeskModel_actOn_1 rfl (by decide) rfl ?_
  refine mv_iconst (v := 0) d_TrustDeskModel_actOn_2 (by decide) ?_
  refine mv_istore_n (lv' := [(3, .int 0), (2, .int (-1)), (0, .ref o0), (1, .int x1)]) d_TrustDeskModel_actOn_3 rfl (by decide) rfl ?_
  have L4_2 : ∀ (k : Nat) (i3_2 : Int32) (i2_2 : Int32) (T_2 : tm_H) (M_2 : mj_M) (n_2 : Nat), tm_I tm_FT (tm_in w_TrustDeskModel_actOn_a) x9 T0 M0 n0 T_2 M_2 n_2 → T_2 o0 = some (0, 13, 0) → 0 ≤ i3_2.toInt → rv M_2 o0 27 = rv M0 o0 27 → -1 ≤ i2_2.toInt → i2_2.toInt ≤ 19 → i2_2.toInt < i3_2.toInt → i3_2.toInt ≤ rv M0 o0 27 → i2_2.toInt = p_on (ra M0 o0 28) x1.toInt (i3_2.toInt).toNat → (rI M_2 o0) → (sA [28] M0 M_2 o0) → 2147483647 - i3_2.toInt < (k : Int) → mj_V g l kY_TrustDeskModel_actOn d 4 [(3, .int i3_2), (2, .int i2_2), (0, .ref o0), (1, .int x1)] [] M_2 n_2 0 0 (tm_Q tm_FT (tm_in w_TrustDeskModel_actOn_a) x9 T0 M0 n0 (fun r _ M => ∃ v : Int32, r = some (.int v) ∧ rI M o0 ∧ (-1 ≤ v.toInt ∧ v.toInt ≤ 19) ∧ (v.toInt = p_on (ra M0 o0 28) x1.toInt (rv M0 o0 27).toNat))) := by
    intro k2
    induction k2 with
    | zero =>
      intro i3_2 i2_2 T_2 M_2 n_2 I_2 h_q0_2 iv0_2 iv1_2 iv2_2 iv3_2 iv4_2 iv5_2 iv6_2 kKR_2 kKS28_2 hk2
      have := mz_hi i3_2
      have := kKR_2.1 15 _ _ rfl
      have := kKR_2.1 16 _ _ rfl
      have := kKR_2.1 19 _ _ rfl
      omega
    | succ k2 ih2 =>
      intro i3_2 i2_2 T_2 M_2 n_2 I_2 h_q0_2 iv0_2 iv1_2 iv2_2 iv3_2 iv4_2 iv5_2 iv6_2 kKR_2 kKS28_2 hk2
      refine mv_iload_n d_TrustDeskModel_actOn_4 rfl rfl ?_
      refine mv_aload_n d_TrustDeskModel_actOn_5 rfl rfl ?_
      obtain ⟨v4, q3⟩ := tm_atI I_2 h_q0_2 (k := 27) rfl
      refine tr_getK q3 d_TrustDeskModel_actOn_6 f_TrustDeskModel_378_13 ?_
      have := kKR_2.f (k := 27) q3 rfl
      have := tm_rv q3
      have := mz_hi i3_2
      have := mz_hi v4
      refine mv_icmp_geZ (tgt := 50) (a := i3_2.toInt) (b := v4.toInt) d_TrustDeskModel_actOn_9 (by decide) rfl rfl (fun b5 => ?_) (fun b5 => ?_)
      · refine mv_iload_n d_TrustDeskModel_actOn_50 rfl rfl ?_
        exact mv_iret d_TrustDeskModel_actOn_51 rfl (by first | rfl | decide) ⟨_, I_2, _, rfl, kKR_2, (by have := kKR_2.1 27 _ _ rfl; omega), (by have e9 := iv6_2; rw [show (i3_2.toInt).toNat = (rv M0 o0 27).toNat from by omega] at e9; exact e9)⟩
      · refine mv_aload_n d_TrustDeskModel_actOn_12 rfl rfl ?_
        obtain ⟨a7, q6, t_a7⟩ := tm_atR I_2 h_q0_2 (k := 28) rfl
        refine tr_getK q6 d_TrustDeskModel_actOn_13 f_TrustDeskModel_57_13 ?_
        refine mv_iload_n d_TrustDeskModel_actOn_16 rfl rfl ?_
        refine tr_ialdR (o := o0) (k := 28) I_2 q6 t_a7 (by decide) d_TrustDeskModel_actOn_17 (vp_in_iff.mpr (by have := kKR_2.1 27 _ _ rfl; omega)) (fun v8 e9 => ?_)
        have : v8.toInt = ra M0 o0 28 ((i3_2.toInt).toNat) := by rw [e9, show i3_2.toNatClampNeg = (i3_2.toInt).toNat from by have := mz_nat9 (i := i3_2) (by have := kKR_2.1 27 _ _ rfl; omega); have := kKR_2.1 27 _ _ rfl; omega]; exact congrFun (kKS28_2 28 rfl) _
        refine mv_iload_n d_TrustDeskModel_actOn_18 rfl rfl ?_
        have := mz_hi v8
        have := mz_hi x1
        refine mv_icmp_gtZ (tgt := 44) (a := v8.toInt) (b := x1.toInt) d_TrustDeskModel_actOn_19 (by decide) rfl rfl (fun b10 => ?_) (fun b10 => ?_)
        · refine mv_iinc (v := (i3_2 + 1)) (lv' := [(3, .int (i3_2 + 1)), (2, .int i2_2), (0, .ref o0), (1, .int x1)]) d_TrustDeskModel_actOn_44 rfl rfl (by decide) rfl ?_
          refine mv_goto (tgt := 4) d_TrustDeskModel_actOn_47 (by decide) ?_
          have b11 : (i3_2 + 1 : Int32).toInt = (i3_2.toInt + 1) := mz_add2 rfl (by decide) (by have := kKR_2.1 27 _ _ rfl; omega) (by have := kKR_2.1 27 _ _ rfl; omega)
          have b12 : (i3_2 + 1).toInt = i3_2.toInt + 1 := mz_addn 1 1 (by decide) (by have := mz_lo i3_2; omega) (by have := mz_hi i3_2; omega)
          exact (ih2 (i3_2 + 1) i2_2 T_2 M_2 n_2 I_2 h_q0_2 (by have := kKR_2.1 27 _ _ rfl; first | omega | decide | exact fun h9 => absurd (by decide) h9) (by have := kKR_2.1 27 _ _ rfl; first | omega | decide | exact fun h9 => absurd (by decide) h9) (by have := kKR_2.1 27 _ _ rfl; first | omega | decide | exact fun h9 => absurd (by decide) h9) (by have := kKR_2.1 27 _ _ rfl; first | omega | decide | exact fun h9 => absurd (by decide) h9) (by have := kKR_2.1 27 _ _ rfl; first | omega | decide | exact fun h9 => absurd (by decide) h9) (by have := kKR_2.1 27 _ _ rfl; first | omega | decide | exact fun h9 => absurd (by decide) h9) (by rw [show ((i3_2 + 1).toInt).toNat = (i3_2.toInt).toNat + 1 from by omega]; exact p_on_not iv6_2 (by omega)) kKR_2 kKS28_2 (by have := kKR_2.1 27 _ _ rfl; omega))
        · refine mv_iload_n d_TrustDeskModel_actOn_22 rfl rfl ?_
          refine mv_iconst (v := (-1)) d_TrustDeskModel_actOn_23 (by decide) ?_
          have := mz_hi i2_2
          refine mv_icmp_eqZ (tgt := 42) (a := i2_2.toInt) (b := (-1)) d_TrustDeskModel_actOn_24 (by decide) rfl (by decide) (fun b13 => ?_) (fun b13 => ?_)
          · refine mv_iload_n d_TrustDeskModel_actOn_42 rfl rfl ?_
            refine mv_istore_n (lv' := [(2, .int i3_2), (3, .int i3_2), (0, .ref o0), (1, .int x1)]) d_TrustDeskModel_actOn_43 rfl (by decide) rfl ?_
            refine mv_iinc (v := (i3_2 + 1)) (lv' := [(3, .int (i3_2 + 1)), (2, .int i3_2), (0, .ref o0), (1, .int x1)]) d_TrustDeskModel_actOn_44 rfl rfl (by decide) rfl ?_
            refine mv_goto (tgt := 4) d_TrustDeskModel_actOn_47 (by decide) ?_
            have b14 : (i3_2 + 1 : Int32).toInt = (i3_2.toInt + 1) := mz_add2 rfl (by decide) (by have := kKR_2.1 27 _ _ rfl; omega) (by have := kKR_2.1 27 _ _ rfl; omega)
            have b15 : (i3_2 + 1).toInt = i3_2.toInt + 1 := mz_addn 1 1 (by decide) (by have := mz_lo i3_2; omega) (by have := mz_hi i3_2; omega)
            exact (ih2 (i3_2 + 1) i3_2 T_2 M_2 n_2 I_2 h_q0_2 (by have := kKR_2.1 27 _ _ rfl; first | omega | decide | exact fun h9 => absurd (by decide) h9) (by have := kKR_2.1 27 _ _ rfl; first | omega | decide | exact fun h9 => absurd (by decide) h9) (by have := kKR_2.1 27 _ _ rfl; first | omega | decide | exact fun h9 => absurd (by decide) h9) (by have := kKR_2.1 27 _ _ rfl; first | omega | decide | exact fun h9 => absurd (by decide) h9) (by have := kKR_2.1 27 _ _ rfl; first | omega | decide | exact fun h9 => absurd (by decide) h9) (by have := kKR_2.1 27 _ _ rfl; first | omega | decide | exact fun h9 => absurd (by decide) h9) (by rw [show ((i3_2 + 1).toInt).toNat = (i3_2.toInt).toNat + 1 from by omega]; have e9 := p_on_yes (i := (i3_2.toInt).toNat) iv6_2 (by omega) (by omega); omega) kKR_2 kKS28_2 (by have := kKR_2.1 27 _ _ rfl; omega))
          · refine mv_aload_n d_TrustDeskModel_actOn_27 rfl rfl ?_
            refine tr_getK (k := 28) q6 d_TrustDeskModel_actOn_28 f_TrustDeskModel_57_13 ?_
            refine mv_iload_n d_TrustDeskModel_actOn_31 rfl rfl ?_
            refine tr_ialdR (o := o0) (k := 28) I_2 q6 t_a7 (by decide) d_TrustDeskModel_actOn_32 (vp_in_iff.mpr (by have := kKR_2.1 27 _ _ rfl; omega)) (fun v16 e17 => ?_)
            have : v16.toInt = ra M0 o0 28 ((i3_2.toInt).toNat) := by rw [e17, show i3_2.toNatClampNeg = (i3_2.toInt).toNat from by have := mz_nat9 (i := i3_2) (by have := kKR_2.1 27 _ _ rfl; omega); have := kKR_2.1 27 _ _ rfl; omega]; exact congrFun (kKS28_2 28 rfl) _
            refine mv_aload_n d_TrustDeskModel_actOn_33 rfl rfl ?_
            refine tr_getK (k := 28) q6 d_TrustDeskModel_actOn_34 f_TrustDeskModel_57_13 ?_
            refine mv_iload_n d_TrustDeskModel_actOn_37 rfl rfl ?_
            refine tr_ialdR (o := o0) (k := 28) I_2 q6 t_a7 (by decide) d_TrustDeskModel_actOn_38 (vp_in_iff.mpr (by have := kKR_2.1 27 _ _ rfl; omega)) (fun v18 e19 => ?_)
            have : v18.toInt = ra M0 o0 28 ((i2_2.toInt).toNat) := by rw [e19, show i2_2.toNatClampNeg = (i2_2.toInt).toNat from by have := mz_nat9 (i := i2_2) (by have := kKR_2.1 27 _ _ rfl; omega); have := kKR_2.1 27 _ _ rfl; omega]; exact congrFun (kKS28_2 28 rfl) _
            have := mz_hi v16
            have := mz_hi v18
            refine mv_icmp_ltZ (tgt := 44) (a := v16.toInt) (b := v18.toInt) d_TrustDeskModel_actOn_39 (by decide) rfl rfl (fun b20 => ?_) (fun b20 => ?_)
            · refine mv_iinc (v := (i3_2 + 1)) (lv' := [(3, .int (i3_2 + 1)), (2, .int i2_2), (0, .ref o0), (1, .int x1)]) d_TrustDeskModel_actOn_44 rfl rfl (by decide) rfl ?_
              refine mv_goto (tgt := 4) d_TrustDeskModel_actOn_47 (by decide) ?_
              have b21 : (i3_2 + 1 : Int32).toInt = (i3_2.toInt + 1) := mz_add2 rfl (by decide) (by have := kKR_2.1 27 _ _ rfl; omega) (by have := kKR_2.1 27 _ _ rfl; omega)
              have b22 : (i3_2 + 1).toInt = i3_2.toInt + 1 := mz_addn 1 1 (by decide) (by have := mz_lo i3_2; omega) (by have := mz_hi i3_2; omega)
              exact (ih2 (i3_2 + 1) i2_2 T_2 M_2 n_2 I_2 h_q0_2 (by have := kKR_2.1 27 _ _ rfl; first | omega | decide | exact fun h9 => absurd (by decide) h9) (by have := kKR_2.1 27 _ _ rfl; first | omega | decide | exact fun h9 => absurd (by decide) h9) (by have := kKR_2.1 27 _ _ rfl; first | omega | decide | exact fun h9 => absurd (by decide) h9) (by have := kKR_2.1 27 _ _ rfl; first | omega | decide | exact fun h9 => absurd (by decide) h9) (by have := kKR_2.1 27 _ _ rfl; first | omega | decide | exact fun h9 => absurd (by decide) h9) (by have := kKR_2.1 27 _ _ rfl; first | omega | decide | exact fun h9 => absurd (by decide) h9) (by rw [show ((i3_2 + 1).toInt).toNat = (i3_2.toInt).toNat + 1 from by omega]; exact p_on_not iv6_2 (by omega)) kKR_2 kKS28_2 (by have := kKR_2.1 27 _ _ rfl; omega))
            · refine mv_iload_n d_TrustDeskModel_actOn_42 rfl rfl ?_
              refine mv_istore_n (lv' := [(2, .int i3_2), (3, .int i3_2), (0, .ref o0), (1, .int x1)]) d_TrustDeskModel_actOn_43 rfl (by decide) rfl ?_
              refine mv_iinc (v := (i3_2 + 1)) (lv' := [(3, .int (i3_2 + 1)), (2, .int i3_2), (0, .ref o0), (1, .int x1)]) d_TrustDeskModel_actOn_44 rfl rfl (by decide) rfl ?_
              refine mv_goto (tgt := 4) d_TrustDeskModel_actOn_47 (by decide) ?_
              have b23 : (i3_2 + 1 : Int32).toInt = (i3_2.toInt + 1) := mz_add2 rfl (by decide) (by have := kKR_2.1 27 _ _ rfl; omega) (by have := kKR_2.1 27 _ _ rfl; omega)
              have b24 : (i3_2 + 1).toInt = i3_2.toInt + 1 := mz_addn 1 1 (by decide) (by have := mz_lo i3_2; omega) (by have := mz_hi i3_2; omega)
              exact (ih2 (i3_2 + 1) i3_2 T_2 M_2 n_2 I_2 h_q0_2 (by have := kKR_2.1 27 _ _ rfl; first | omega | decide | exact fun h9 => absurd (by decide) h9) (by have := kKR_2.1 27 _ _ rfl; first | omega | decide | exact fun h9 => absurd (by decide) h9) (by have := kKR_2.1 27 _ _ rfl; first | omega | decide | exact fun h9 => absurd (by decide) h9) (by have := kKR_2.1 27 _ _ rfl; first | omega | decide | exact fun h9 => absurd (by decide) h9) (by have := kKR_2.1 27 _ _ rfl; first | omega | decide | exact fun h9 => absurd (by decide) h9) (by have := kKR_2.1 27 _ _ rfl; first | omega | decide | exact fun h9 => absurd (by decide) h9) (by rw [show ((i3_2 + 1).toInt).toNat = (i3_2.toInt).toNat + 1 from by omega]; have e9 := p_on_yes (i := (i3_2.toInt).toNat) iv6_2 (by omega) (by omega); omega) kKR_2 kKS28_2 (by have := kKR_2.1 27 _ _ rfl; omega))
  have : ((-1) : Int32).toInt = (-1) := by decide
  have : (0 : Int32).toInt = 0 := by decide
  exact mv_less (Nat.zero_le _) (Nat.zero_le _) (L4_2 4294967296 0 (-1) T0 M0 n0 I0 h_o0 (by have := yR.1 27 _ _ rfl; first | omega | decide | exact fun h9 => absurd (by decide) h9) (by have := yR.1 27 _ _ rfl; first | omega | decide | exact fun h9 => absurd (by decide) h9) (by have := yR.1 27 _ _ rfl; first | omega | decide | exact fun h9 => absurd (by decide) h9) (by have := yR.1 27 _ _ rfl; first | omega | decide | exact fun h9 => absurd (by decide) h9) (by have := yR.1 27 _ _ rfl; first | omega | decide | exact fun h9 => absurd (by decide) h9) (by have := yR.1 27 _ _ rfl; first | omega | decide | exact fun h9 => absurd (by decide) h9) (by rw [show ((0 : Int32).toInt).toNat = 0 from by decide]; exact (by decide : (-1 : Int32).toInt = -1)) yR K1 (by show (2147483647 - (0 : Int) : Int) < _; decide))
def w_TrustDeskModel_toldOn_a : List Nat := []
set_option maxHeartbeats 100000000 in theorem tc_TrustDeskModel_toldOn_a {g : mj_G} {l : Launch} {d : Nat} {T0 : tm_H} {M0 : mj_M} {n0 x9 : Nat} {o0 : Nat} {x1 : Int32} {x2 : Int32} (h_o0 : T0 o0 = some (0, 13, 0)) (yR : rI M0 o0) (y8 : ∀ i : Nat, i < 880 → 0 ≤ ra M0 o0 8 i) (yw : 0 ≤ x2.toInt ∧ x2.toInt ≤ 5) (I0 : tm_I tm_FT (tm_in w_TrustDeskModel_toldOn_a) x9 T0 M0 n0 T0 M0 n0) : mj_Met g l kY_TrustDeskModel_toldOn (d + 1) [.ref o0, .int x1, .int x2] M0 n0 0 0 (tm_Q tm_FT (tm_in w_TrustDeskModel_toldOn_a) x9 T0 M0 n0 (fun r _ M => ∃ v : Int32, r = some (.int v) ∧ rI M o0 ∧ (0 ≤ v.toInt ∧ v.toInt ≤ 720) ∧ (v.toInt = p_tr M0 o0 x1.toInt x2.toInt.toNat))) := by
  refine mj_enter (by decide) (Nat.le_of_ble_eq_true rfl) ?_
  have K1 : ∀ i : Nat, i < 880 → 0 ≤ ra M0 o0 8 i := y8
  have K2 : sA [6, 7, 8] M0 M0 o0 := sA.rf
  refine mv_iload_n d_TrustDeskModel_toldOn_0 rfl rfl ?_
  have := mz_hi x2
  refine mv_if_neZ (tgt := 8) (a := x2.toInt) d_TrustDeskModel_toldOn_1 (by decide) rfl (fun b3 => ?_) (fun b3 => ?_)
  · refine mv_iload_n d_TrustDeskModel_toldOn_8 rfl rfl ?_
    refine mv_iconst (v := 1) d_TrustDeskModel_toldOn_9 (by decide) ?_
    have := mz_hi x2
    refine mv_icmp_neZ (tgt := 17) (a := x2.toInt) (b := 1) d_TrustDeskModel_toldOn_10 (by decide) rfl (by decide) (fun b4 => ?_) (fun b4 => ?_)
    · refine mv_iload_n d_TrustDeskModel_toldOn_17 rfl rfl ?_
      refine mv_iconst (v := 2) d_TrustDeskModel_toldOn_18 (by decide) ?_
      have := mz_hi x2
      refine mv_icmp_neZ (tgt := 27) (a := x2.toInt) (b := 2) d_TrustDeskModel_toldOn_19 (by decide) rfl (by decide) (fun b5 => ?_) (fun b5 => ?_)
      · refine mv_iload_n d_TrustDeskModel_toldOn_27 rfl rfl ?_
        refine mv_iconst (v := 3) d_TrustDeskModel_toldOn_28 (by decide) ?_
        have := mz_hi x2
        refine mv_icmp_neZ (tgt := 37) (a := x2.toInt) (b := 3) d_TrustDeskModel_toldOn_29 (by decide) rfl (by decide) (fun b6 => ?_) (fun b6 => ?_)
        · refine mv_iload_n d_TrustDeskModel_toldOn_37 rfl rfl ?_
          refine mv_iconst (v := 4) d_TrustDeskModel_toldOn_38 (by decide) ?_
          have := mz_hi x2
          refine mv_icmp_neZ (tgt := 46) (a := x2.toInt) (b := 4) d_TrustDeskModel_toldOn_39 (by decide) rfl (by decide) (fun b7 => ?_) (fun b7 => ?_)
          · refine mv_bipush (v := 20) d_TrustDeskModel_toldOn_46 (by decide) ?_
            refine mv_istore_n (lv' := [(3, .int 20), (0, .ref o0), (1, .int x1), (2, .int x2)]) d_TrustDeskModel_toldOn_48 rfl (by decide) rfl ?_
            refine mv_aload_n d_TrustDeskModel_toldOn_49 rfl rfl ?_
            refine mv_iload_n d_TrustDeskModel_toldOn_50 rfl rfl ?_
            obtain ⟨_, b14, -⟩ := I0.1 _ _ h_o0
            refine mv_callV (kc' := 0) (ks' := 0) (As := [.int x1]) (st9 := [.int x1, .ref o0]) d_TrustDeskModel_toldOn_51 lV_TrustDeskModel_391 b14 rfl (tc_TrustDeskModel_actOn_a (d := d) (x9 := x9) (o0 := o0) (x1 := x1) h_o0 yR I0.start) rfl (Nat.le_of_ble_eq_true rfl) (Nat.le_of_ble_eq_true rfl) (Nat.le_of_ble_eq_true rfl) (hst := rfl) (fun b8r M9 n10 b8 => ?_)
            obtain ⟨T11, J12, v15, rfl, R16, f17, f18⟩ := b8
            have I13 := I0.call J12 (tm_sub (by decide)) (Or.inl rfl)
            have t19 := J12.up h_o0
            have z20 := (rv_c I0 J12 (I0.up h_o0) (k := 27) rfl)
            have K21 : ∀ i : Nat, i < 880 → 0 ≤ ra M9 o0 8 i := (by have e9 := ((sA_c I0 J12 (I0.up h_o0) (by decide +kernel)) : sA [8] _ _ _) 8 rfl; rw [e9]; exact K1)
            have K22 : sA [6, 7, 8] M0 M9 o0 := K2.trans (sA_c I0 J12 (I0.up h_o0) (by decide +kernel))
            refine mv_istore (lv' := [(4, .int v15), (3, .int 20), (0, .ref o0), (1, .int x1), (2, .int x2)]) d_TrustDeskModel_toldOn_54 (by decide) rfl ?_
            refine mv_iconst (v := 0) d_TrustDeskModel_toldOn_56 (by decide) ?_
            refine mv_istore (lv' := [(5, .int 0), (4, .int v15), (3, .int 20), (0, .ref o0), (1, .int x1), (2, .int x2)]) d_TrustDeskModel_toldOn_57 (by decide) rfl ?_
            have L59_23 : ∀ (k : Nat) (i5_23 : Int32) (i3_23 : Int32) (T_23 : tm_H) (M_23 : mj_M) (n_23 : Nat), tm_I tm_FT (tm_in w_TrustDeskModel_toldOn_a) x9 T0 M0 n0 T_23 M_23 n_23 → T_23 o0 = some (0, 13, 0) → 0 ≤ i5_23.toInt → 0 ≤ i3_23.toInt → i3_23.toInt ≤ 720 → (v15.toInt = -1 ∨ i5_23.toInt ≤ ra M0 o0 6 (v15.toInt).toNat) → i3_23.toInt = (if v15.toInt = -1 then p_dv x2.toInt.toNat else sc M0 o0 (20 * (v15.toInt).toNat) (i5_23.toInt).toNat x2.toInt.toNat (p_dv x2.toInt.toNat)) → (rI M_23 o0) → (∀ i : Nat, i < 880 → 0 ≤ ra M_23 o0 8 i) → (sA [6, 7, 8] M0 M_23 o0) → 2147483647 - i5_23.toInt < (k : Int) → mj_V g l kY_TrustDeskModel_toldOn (d + 1) 59 [(5, .int i5_23), (4, .int v15), (3, .int i3_23), (0, .ref o0), (1, .int x1), (2, .int x2)] [] M_23 n_23 0 0 (tm_Q tm_FT (tm_in w_TrustDeskModel_toldOn_a) x9 T0 M0 n0 (fun r _ M => ∃ v : Int32, r = some (.int v) ∧ rI M o0 ∧ (0 ≤ v.toInt ∧ v.toInt ≤ 720) ∧ (v.toInt = p_tr M0 o0 x1.toInt x2.toInt.toNat))) := by
              intro k23
              induction k23 with
              | zero =>
                intro i5_23 i3_23 T_23 M_23 n_23 I_23 h_q0_23 iv0_23 iv1_23 iv2_23 iv3_23 iv4_23 kKR_23 kK8_23 kKS678_23 hk23
                have := mz_hi i5_23
                have := kKR_23.1 15 _ _ rfl
                have := kKR_23.1 16 _ _ rfl
                have := kKR_23.1 19 _ _ rfl
                omega
              | succ k23 ih23 =>
                intro i5_23 i3_23 T_23 M_23 n_23 I_23 h_q0_23 iv0_23 iv1_23 iv2_23 iv3_23 iv4_23 kKR_23 kK8_23 kKS678_23 hk23
                refine mv_iload d_TrustDeskModel_toldOn_59 rfl ?_
                refine mv_iconst (v := (-1)) d_TrustDeskModel_toldOn_61 (by decide) ?_
                have := mz_hi v15
                refine mv_icmp_eqZ (tgt := 114) (a := v15.toInt) (b := (-1)) d_TrustDeskModel_toldOn_62 (by decide) rfl (by decide) (fun b24 => ?_) (fun b24 => ?_)
                · refine mv_iload_n d_TrustDeskModel_toldOn_114 rfl rfl ?_
                  exact mv_iret d_TrustDeskModel_toldOn_115 rfl (by first | rfl | decide) ⟨_, I_23, _, rfl, kKR_23, (by have := kKR_23.1 27 _ _ rfl; omega), (by have e9 := iv4_23; unfold p_tr; rw [← f18]; by_cases h9 : v15.toInt = -1; (rw [if_pos h9] at e9 ⊢; exact e9); (rw [if_neg h9] at e9 ⊢; rw [show (i5_23.toInt).toNat = (ra M0 o0 6 (v15.toInt).toNat).toNat from by omega] at e9; exact e9))⟩
                · refine mv_iload d_TrustDeskModel_toldOn_65 rfl ?_
                  refine mv_aload_n d_TrustDeskModel_toldOn_67 rfl rfl ?_
                  obtain ⟨a26, q25, t_a26⟩ := tm_atR I_23 h_q0_23 (k := 6) rfl
                  refine tr_getK q25 d_TrustDeskModel_toldOn_68 f_TrustDeskModel_23_13 ?_
                  refine mv_iload d_TrustDeskModel_toldOn_71 rfl ?_
                  refine tr_ialdR (o := o0) (k := 6) I_23 q25 t_a26 (by decide) d_TrustDeskModel_toldOn_73 (vp_in_iff.mpr (by have := kKR_23.1 27 _ _ rfl; omega)) (fun v27 e28 => ?_)
                  have := kKR_23.a (k := 6) rfl (v15 : Int32).toNatClampNeg
                  have : v27.toInt = ra M0 o0 6 ((v15.toInt).toNat) := by rw [e28, show v15.toNatClampNeg = (v15.toInt).toNat from by have := mz_nat9 (i := v15) (by have := kKR_23.1 27 _ _ rfl; omega); have := kKR_23.1 27 _ _ rfl; omega]; exact congrFun (kKS678_23 6 rfl) _
                  have := mz_hi i5_23
                  have := mz_hi v27
                  refine mv_icmp_geZ (tgt := 114) (a := i5_23.toInt) (b := v27.toInt) d_TrustDeskModel_toldOn_74 (by decide) rfl rfl (fun b29 => ?_) (fun b29 => ?_)
                  · refine mv_iload_n d_TrustDeskModel_toldOn_114 rfl rfl ?_
                    exact mv_iret d_TrustDeskModel_toldOn_115 rfl (by first | rfl | decide) ⟨_, I_23, _, rfl, kKR_23, (by have := kKR_23.1 27 _ _ rfl; omega), (by have e9 := iv4_23; unfold p_tr; rw [← f18]; by_cases h9 : v15.toInt = -1; (rw [if_pos h9] at e9 ⊢; exact e9); (rw [if_neg h9] at e9 ⊢; rw [show (i5_23.toInt).toNat = (ra M0 o0 6 (v15.toInt).toNat).toNat from by omega] at e9; exact e9))⟩
                  · refine mv_aload_n d_TrustDeskModel_toldOn_77 rfl rfl ?_
                    obtain ⟨a31, q30, t_a31⟩ := tm_atR I_23 h_q0_23 (k := 7) rfl
                    refine tr_getK q30 d_TrustDeskModel_toldOn_78 f_TrustDeskModel_26_13 ?_
                    refine mv_bipush (v := 20) d_TrustDeskModel_toldOn_81 (by decide) ?_
                    refine mv_iload d_TrustDeskModel_toldOn_83 rfl ?_
                    refine mv_imul d_TrustDeskModel_toldOn_85 ?_
                    refine mv_iload d_TrustDeskModel_toldOn_86 rfl ?_
                    refine mv_iadd d_TrustDeskModel_toldOn_88 ?_
                    have b32 : (20 * v15 : Int32).toInt = (20 * v15.toInt) := mz_mul2 (by decide) rfl (by have := kKR_23.1 27 _ _ rfl; omega) (by have := kKR_23.1 27 _ _ rfl; omega)
                    have b33 : ((20 * v15) + i5_23 : Int32).toInt = ((20 * v15.toInt) + i5_23.toInt) := mz_add2 b32 rfl (by have := kKR_23.1 27 _ _ rfl; omega) (by have := kKR_23.1 27 _ _ rfl; omega)
                    refine tr_ialdR (o := o0) (k := 7) I_23 q30 t_a31 (by decide) d_TrustDeskModel_toldOn_89 (vp_in_iff.mpr (by have := kKR_23.1 27 _ _ rfl; omega)) (fun v34 e35 => ?_)
                    have : v34.toInt = ra M0 o0 7 (20 * (v15.toInt).toNat + (i5_23.toInt).toNat) := by rw [e35, show ((20 * v15) + i5_23).toNatClampNeg = 20 * (v15.toInt).toNat + (i5_23.toInt).toNat from by have := mz_nat9 (i := ((20 * v15) + i5_23)) (by have := kKR_23.1 27 _ _ rfl; omega); have := kKR_23.1 27 _ _ rfl; omega]; exact congrFun (kKS678_23 7 rfl) _
                    refine mv_iload_n d_TrustDeskModel_toldOn_90 rfl rfl ?_
                    have := mz_hi v34
                    have := mz_hi x2
                    refine mv_icmp_neZ (tgt := 108) (a := v34.toInt) (b := x2.toInt) d_TrustDeskModel_toldOn_91 (by decide) rfl rfl (fun b36 => ?_) (fun b36 => ?_)
                    · refine mv_iinc (v := (i5_23 + 1)) (lv' := [(5, .int (i5_23 + 1)), (4, .int v15), (3, .int i3_23), (0, .ref o0), (1, .int x1), (2, .int x2)]) d_TrustDeskModel_toldOn_108 rfl rfl (by decide) rfl ?_
                      refine mv_goto (tgt := 59) d_TrustDeskModel_toldOn_111 (by decide) ?_
                      have := yR.2 6 _ _ rfl (v15.toInt).toNat
                      have b37 : (i5_23 + 1 : Int32).toInt = (i5_23.toInt + 1) := mz_add2 rfl (by decide) (by have := kKR_23.1 27 _ _ rfl; omega) (by have := kKR_23.1 27 _ _ rfl; omega)
                      have b38 : (i5_23 + 1).toInt = i5_23.toInt + 1 := mz_addn 1 1 (by decide) (by have := mz_lo i5_23; omega) (by have := mz_hi i5_23; omega)
                      exact (ih23 (i5_23 + 1) i3_23 T_23 M_23 n_23 I_23 h_q0_23 (by have := kKR_23.1 27 _ _ rfl; first | omega | decide | exact fun h9 => absurd (by decide) h9) (by have := kKR_23.1 27 _ _ rfl; first | omega | decide | exact fun h9 => absurd (by decide) h9) (by have := kKR_23.1 27 _ _ rfl; first | omega | decide | exact fun h9 => absurd (by decide) h9) (by have := kKR_23.1 27 _ _ rfl; first | omega | decide | exact fun h9 => absurd (by decide) h9) (by have e9 := iv4_23; rw [if_neg (by omega)] at e9 ⊢; rw [show ((i5_23 + 1).toInt).toNat = (i5_23.toInt).toNat + 1 from by omega]; show _ = if ra M0 o0 7 (20 * (v15.toInt).toNat + (i5_23.toInt).toNat) = ((x2.toInt.toNat : Nat) : Int) then ra M0 o0 8 (20 * (v15.toInt).toNat + (i5_23.toInt).toNat) else sc M0 o0 (20 * (v15.toInt).toNat) (i5_23.toInt).toNat x2.toInt.toNat (p_dv x2.toInt.toNat); rw [if_neg (by omega)]; exact e9) kKR_23 kK8_23 kKS678_23 (by have := kKR_23.1 27 _ _ rfl; omega))
                    · refine mv_aload_n d_TrustDeskModel_toldOn_94 rfl rfl ?_
                      obtain ⟨a40, q39, t_a40⟩ := tm_atR I_23 h_q0_23 (k := 8) rfl
                      refine tr_getK q39 d_TrustDeskModel_toldOn_95 f_TrustDeskModel_29_13 ?_
                      refine mv_bipush (v := 20) d_TrustDeskModel_toldOn_98 (by decide) ?_
                      refine mv_iload d_TrustDeskModel_toldOn_100 rfl ?_
                      refine mv_imul d_TrustDeskModel_toldOn_102 ?_
                      refine mv_iload d_TrustDeskModel_toldOn_103 rfl ?_
                      refine mv_iadd d_TrustDeskModel_toldOn_105 ?_
                      have b41 : (20 * v15 : Int32).toInt = (20 * v15.toInt) := mz_mul2 (by decide) rfl (by have := kKR_23.1 27 _ _ rfl; omega) (by have := kKR_23.1 27 _ _ rfl; omega)
                      have b42 : ((20 * v15) + i5_23 : Int32).toInt = ((20 * v15.toInt) + i5_23.toInt) := mz_add2 b41 rfl (by have := kKR_23.1 27 _ _ rfl; omega) (by have := kKR_23.1 27 _ _ rfl; omega)
                      refine tr_ialdR (o := o0) (k := 8) I_23 q39 t_a40 (by decide) d_TrustDeskModel_toldOn_106 (vp_in_iff.mpr (by have := kKR_23.1 27 _ _ rfl; omega)) (fun v43 e44 => ?_)
                      have := kKR_23.a (k := 8) rfl (((20 * v15) + i5_23) : Int32).toNatClampNeg
                      have := kK8_23 ((20 * v15) + i5_23).toNatClampNeg (by have := mz_nat9 (i := ((20 * v15) + i5_23)) (by have := kKR_23.1 27 _ _ rfl; omega); have := kKR_23.1 27 _ _ rfl; omega)
                      have : v43.toInt = ra M0 o0 8 (20 * (v15.toInt).toNat + (i5_23.toInt).toNat) := by rw [e44, show ((20 * v15) + i5_23).toNatClampNeg = 20 * (v15.toInt).toNat + (i5_23.toInt).toNat from by have := mz_nat9 (i := ((20 * v15) + i5_23)) (by have := kKR_23.1 27 _ _ rfl; omega); have := kKR_23.1 27 _ _ rfl; omega]; exact congrFun (kKS678_23 8 rfl) _
                      refine mv_istore_n (lv' := [(3, .int v43), (5, .int i5_23), (4, .int v15), (0, .ref o0), (1, .int x1), (2, .int x2)]) d_TrustDeskModel_toldOn_107 rfl (by decide) rfl ?_
                      refine mv_iinc (v := (i5_23 + 1)) (lv' := [(5, .int (i5_23 + 1)), (3, .int v43), (4, .int v15), (0, .ref o0), (1, .int x1), (2, .int x2)]) d_TrustDeskModel_toldOn_108 rfl rfl (by decide) rfl ?_
                      refine mv_goto (tgt := 59) d_TrustDeskModel_toldOn_111 (by decide) ?_
                      have := yR.2 6 _ _ rfl (v15.toInt).toNat
                      have b45 : (i5_23 + 1 : Int32).toInt = (i5_23.toInt + 1) := mz_add2 rfl (by decide) (by have := kKR_23.1 27 _ _ rfl; omega) (by have := kKR_23.1 27 _ _ rfl; omega)
                      refine mv_locals (lv' := [(5, .int (i5_23 + 1)), (4, .int v15), (3, .int v43), (0, .ref o0), (1, .int x1), (2, .int x2)]) (by intro q hq; simp only [List.mem_cons, List.not_mem_nil, or_false] at hq; rcases hq with rfl | rfl | rfl | rfl | rfl | rfl <;> rfl) ?_
                      have b46 : (i5_23 + 1).toInt = i5_23.toInt + 1 := mz_addn 1 1 (by decide) (by have := mz_lo i5_23; omega) (by have := mz_hi i5_23; omega)
                      exact (ih23 (i5_23 + 1) v43 T_23 M_23 n_23 I_23 h_q0_23 (by have := kKR_23.1 27 _ _ rfl; first | omega | decide | exact fun h9 => absurd (by decide) h9) (by have := kKR_23.1 27 _ _ rfl; first | omega | decide | exact fun h9 => absurd (by decide) h9) (by have := kKR_23.1 27 _ _ rfl; first | omega | decide | exact fun h9 => absurd (by decide) h9) (by have := kKR_23.1 27 _ _ rfl; first | omega | decide | exact fun h9 => absurd (by decide) h9) (by have e9 := iv4_23; rw [if_neg (by omega)] at e9 ⊢; rw [show ((i5_23 + 1).toInt).toNat = (i5_23.toInt).toNat + 1 from by omega]; show _ = if ra M0 o0 7 (20 * (v15.toInt).toNat + (i5_23.toInt).toNat) = ((x2.toInt.toNat : Nat) : Int) then ra M0 o0 8 (20 * (v15.toInt).toNat + (i5_23.toInt).toNat) else sc M0 o0 (20 * (v15.toInt).toNat) (i5_23.toInt).toNat x2.toInt.toNat (p_dv x2.toInt.toNat); rw [if_pos (by omega)]; omega) kKR_23 kK8_23 kKS678_23 (by have := kKR_23.1 27 _ _ rfl; omega))
            have := yR.2 6 _ _ rfl (v15.toInt).toNat
            have : (0 : Int32).toInt = 0 := by decide
            have : (20 : Int32).toInt = 20 := by decide
            exact mv_less (Nat.zero_le _) (Nat.zero_le _) (L59_23 4294967296 0 20 T11 M9 n10 I13 t19 (by have := R16.1 27 _ _ rfl; first | omega | decide | exact fun h9 => absurd (by decide) h9) (by have := R16.1 27 _ _ rfl; first | omega | decide | exact fun h9 => absurd (by decide) h9) (by have := R16.1 27 _ _ rfl; first | omega | decide | exact fun h9 => absurd (by decide) h9) (by have := R16.1 27 _ _ rfl; first | omega | decide | exact fun h9 => absurd (by decide) h9) (by have e9 : (20 : Int32).toInt = p_dv x2.toInt.toNat := (by rw [show x2.toInt.toNat = 5 from by omega]; decide); rw [show ((0 : Int32).toInt).toNat = 0 from by decide]; split; exact e9; exact e9) R16 K21 K22 (by show (2147483647 - (0 : Int) : Int) < _; decide))
          · refine mv_iconst (v := 0) d_TrustDeskModel_toldOn_42 (by decide) ?_
            refine mv_goto (tgt := 48) d_TrustDeskModel_toldOn_43 (by decide) ?_
            refine mv_istore_n (lv' := [(3, .int 0), (0, .ref o0), (1, .int x1), (2, .int x2)]) d_TrustDeskModel_toldOn_48 rfl (by decide) rfl ?_
            refine mv_aload_n d_TrustDeskModel_toldOn_49 rfl rfl ?_
            refine mv_iload_n d_TrustDeskModel_toldOn_50 rfl rfl ?_
            obtain ⟨_, b53, -⟩ := I0.1 _ _ h_o0
            refine mv_callV (kc' := 0) (ks' := 0) (As := [.int x1]) (st9 := [.int x1, .ref o0]) d_TrustDeskModel_toldOn_51 lV_TrustDeskModel_391 b53 rfl (tc_TrustDeskModel_actOn_a (d := d) (x9 := x9) (o0 := o0) (x1 := x1) h_o0 yR I0.start) rfl (Nat.le_of_ble_eq_true rfl) (Nat.le_of_ble_eq_true rfl) (Nat.le_of_ble_eq_true rfl) (hst := rfl) (fun b47r M48 n49 b47 => ?_)
            obtain ⟨T50, J51, v54, rfl, R55, f56, f57⟩ := b47
            have I52 := I0.call J51 (tm_sub (by decide)) (Or.inl rfl)
            have t58 := J51.up h_o0
            have z59 := (rv_c I0 J51 (I0.up h_o0) (k := 27) rfl)
            have K60 : ∀ i : Nat, i < 880 → 0 ≤ ra M48 o0 8 i := (by have e9 := ((sA_c I0 J51 (I0.up h_o0) (by decide +kernel)) : sA [8] _ _ _) 8 rfl; rw [e9]; exact K1)
            have K61 : sA [6, 7, 8] M0 M48 o0 := K2.trans (sA_c I0 J51 (I0.up h_o0) (by decide +kernel))
            refine mv_istore (lv' := [(4, .int v54), (3, .int 0), (0, .ref o0), (1, .int x1), (2, .int x2)]) d_TrustDeskModel_toldOn_54 (by decide) rfl ?_
            refine mv_iconst (v := 0) d_TrustDeskModel_toldOn_56 (by decide) ?_
            refine mv_istore (lv' := [(5, .int 0), (4, .int v54), (3, .int 0), (0, .ref o0), (1, .int x1), (2, .int x2)]) d_TrustDeskModel_toldOn_57 (by decide) rfl ?_
            have L59_62 : ∀ (k : Nat) (i5_62 : Int32) (i3_62 : Int32) (T_62 : tm_H) (M_62 : mj_M) (n_62 : Nat), tm_I tm_FT (tm_in w_TrustDeskModel_toldOn_a) x9 T0 M0 n0 T_62 M_62 n_62 → T_62 o0 = some (0, 13, 0) → 0 ≤ i5_62.toInt → 0 ≤ i3_62.toInt → i3_62.toInt ≤ 720 → (v54.toInt = -1 ∨ i5_62.toInt ≤ ra M0 o0 6 (v54.toInt).toNat) → i3_62.toInt = (if v54.toInt = -1 then p_dv x2.toInt.toNat else sc M0 o0 (20 * (v54.toInt).toNat) (i5_62.toInt).toNat x2.toInt.toNat (p_dv x2.toInt.toNat)) → (rI M_62 o0) → (∀ i : Nat, i < 880 → 0 ≤ ra M_62 o0 8 i) → (sA [6, 7, 8] M0 M_62 o0) → 2147483647 - i5_62.toInt < (k : Int) → mj_V g l kY_TrustDeskModel_toldOn (d + 1) 59 [(5, .int i5_62), (4, .int v54), (3, .int i3_62), (0, .ref o0), (1, .int x1), (2, .int x2)] [] M_62 n_62 0 0 (tm_Q tm_FT (tm_in w_TrustDeskModel_toldOn_a) x9 T0 M0 n0 (fun r _ M => ∃ v : Int32, r = some (.int v) ∧ rI M o0 ∧ (0 ≤ v.toInt ∧ v.toInt ≤ 720) ∧ (v.toInt = p_tr M0 o0 x1.toInt x2.toInt.toNat))) := by
              intro k62
              induction k62 with
              | zero =>
                intro i5_62 i3_62 T_62 M_62 n_62 I_62 h_q0_62 iv0_62 iv1_62 iv2_62 iv3_62 iv4_62 kKR_62 kK8_62 kKS678_62 hk62
                have := mz_hi i5_62
                have := kKR_62.1 15 _ _ rfl
                have := kKR_62.1 16 _ _ rfl
                have := kKR_62.1 19 _ _ rfl
                omega
              | succ k62 ih62 =>
                intro i5_62 i3_62 T_62 M_62 n_62 I_62 h_q0_62 iv0_62 iv1_62 iv2_62 iv3_62 iv4_62 kKR_62 kK8_62 kKS678_62 hk62
                refine mv_iload d_TrustDeskModel_toldOn_59 rfl ?_
                refine mv_iconst (v := (-1)) d_TrustDeskModel_toldOn_61 (by decide) ?_
                have := mz_hi v54
                refine mv_icmp_eqZ (tgt := 114) (a := v54.toInt) (b := (-1)) d_TrustDeskModel_toldOn_62 (by decide) rfl (by decide) (fun b63 => ?_) (fun b63 => ?_)
                · refine mv_iload_n d_TrustDeskModel_toldOn_114 rfl rfl ?_
                  exact mv_iret d_TrustDeskModel_toldOn_115 rfl (by first | rfl | decide) ⟨_, I_62, _, rfl, kKR_62, (by have := kKR_62.1 27 _ _ rfl; omega), (by have e9 := iv4_62; unfold p_tr; rw [← f57]; by_cases h9 : v54.toInt = -1; (rw [if_pos h9] at e9 ⊢; exact e9); (rw [if_neg h9] at e9 ⊢; rw [show (i5_62.toInt).toNat = (ra M0 o0 6 (v54.toInt).toNat).toNat from by omega] at e9; exact e9))⟩
                · refine mv_iload d_TrustDeskModel_toldOn_65 rfl ?_
                  refine mv_aload_n d_TrustDeskModel_toldOn_67 rfl rfl ?_
                  obtain ⟨a65, q64, t_a65⟩ := tm_atR I_62 h_q0_62 (k := 6) rfl
                  refine tr_getK q64 d_TrustDeskModel_toldOn_68 f_TrustDeskModel_23_13 ?_
                  refine mv_iload d_TrustDeskModel_toldOn_71 rfl ?_
                  refine tr_ialdR (o := o0) (k := 6) I_62 q64 t_a65 (by decide) d_TrustDeskModel_toldOn_73 (vp_in_iff.mpr (by have := kKR_62.1 27 _ _ rfl; omega)) (fun v66 e67 => ?_)
                  have := kKR_62.a (k := 6) rfl (v54 : Int32).toNatClampNeg
                  have : v66.toInt = ra M0 o0 6 ((v54.toInt).toNat) := by rw [e67, show v54.toNatClampNeg = (v54.toInt).toNat from by have := mz_nat9 (i := v54) (by have := kKR_62.1 27 _ _ rfl; omega); have := kKR_62.1 27 _ _ rfl; omega]; exact congrFun (kKS678_62 6 rfl) _
                  have := mz_hi i5_62
                  have := mz_hi v66
                  refine mv_icmp_geZ (tgt := 114) (a := i5_62.toInt) (b := v66.toInt) d_TrustDeskModel_toldOn_74 (by decide) rfl rfl (fun b68 => ?_) (fun b68 => ?_)
                  · refine mv_iload_n d_TrustDeskModel_toldOn_114 rfl rfl ?_
                    exact mv_iret d_TrustDeskModel_toldOn_115 rfl (by first | rfl | decide) ⟨_, I_62, _, rfl, kKR_62, (by have := kKR_62.1 27 _ _ rfl; omega), (by have e9 := iv4_62; unfold p_tr; rw [← f57]; by_cases h9 : v54.toInt = -1; (rw [if_pos h9] at e9 ⊢; exact e9); (rw [if_neg h9] at e9 ⊢; rw [show (i5_62.toInt).toNat = (ra M0 o0 6 (v54.toInt).toNat).toNat from by omega] at e9; exact e9))⟩
                  · refine mv_aload_n d_TrustDeskModel_toldOn_77 rfl rfl ?_
                    obtain ⟨a70, q69, t_a70⟩ := tm_atR I_62 h_q0_62 (k := 7) rfl
                    refine tr_getK q69 d_TrustDeskModel_toldOn_78 f_TrustDeskModel_26_13 ?_
                    refine mv_bipush (v := 20) d_TrustDeskModel_toldOn_81 (by decide) ?_
                    refine mv_iload d_TrustDeskModel_toldOn_83 rfl ?_
                    refine mv_imul d_TrustDeskModel_toldOn_85 ?_
                    refine mv_iload d_TrustDeskModel_toldOn_86 rfl ?_
                    refine mv_iadd d_TrustDeskModel_toldOn_88 ?_
                    have b71 : (20 * v54 : Int32).toInt = (20 * v54.toInt) := mz_mul2 (by decide) rfl (by have := kKR_62.1 27 _ _ rfl; omega) (by have := kKR_62.1 27 _ _ rfl; omega)
                    have b72 : ((20 * v54) + i5_62 : Int32).toInt = ((20 * v54.toInt) + i5_62.toInt) := mz_add2 b71 rfl (by have := kKR_62.1 27 _ _ rfl; omega) (by have := kKR_62.1 27 _ _ rfl; omega)
                    refine tr_ialdR (o := o0) (k := 7) I_62 q69 t_a70 (by decide) d_TrustDeskModel_toldOn_89 (vp_in_iff.mpr (by have := kKR_62.1 27 _ _ rfl; omega)) (fun v73 e74 => ?_)
                    have : v73.toInt = ra M0 o0 7 (20 * (v54.toInt).toNat + (i5_62.toInt).toNat) := by rw [e74, show ((20 * v54) + i5_62).toNatClampNeg = 20 * (v54.toInt).toNat + (i5_62.toInt).toNat from by have := mz_nat9 (i := ((20 * v54) + i5_62)) (by have := kKR_62.1 27 _ _ rfl; omega); have := kKR_62.1 27 _ _ rfl; omega]; exact congrFun (kKS678_62 7 rfl) _
                    refine mv_iload_n d_TrustDeskModel_toldOn_90 rfl rfl ?_
                    have := mz_hi v73
                    have := mz_hi x2
                    refine mv_icmp_neZ (tgt := 108) (a := v73.toInt) (b := x2.toInt) d_TrustDeskModel_toldOn_91 (by decide) rfl rfl (fun b75 => ?_) (fun b75 => ?_)
                    · refine mv_iinc (v := (i5_62 + 1)) (lv' := [(5, .int (i5_62 + 1)), (4, .int v54), (3, .int i3_62), (0, .ref o0), (1, .int x1), (2, .int x2)]) d_TrustDeskModel_toldOn_108 rfl rfl (by decide) rfl ?_
                      refine mv_goto (tgt := 59) d_TrustDeskModel_toldOn_111 (by decide) ?_
                      have := yR.2 6 _ _ rfl (v54.toInt).toNat
                      have b76 : (i5_62 + 1 : Int32).toInt = (i5_62.toInt + 1) := mz_add2 rfl (by decide) (by have := kKR_62.1 27 _ _ rfl; omega) (by have := kKR_62.1 27 _ _ rfl; omega)
                      have b77 : (i5_62 + 1).toInt = i5_62.toInt + 1 := mz_addn 1 1 (by decide) (by have := mz_lo i5_62; omega) (by have := mz_hi i5_62; omega)
                      exact (ih62 (i5_62 + 1) i3_62 T_62 M_62 n_62 I_62 h_q0_62 (by have := kKR_62.1 27 _ _ rfl; first | omega | decide | exact fun h9 => absurd (by decide) h9) (by have := kKR_62.1 27 _ _ rfl; first | omega | decide | exact fun h9 => absurd (by decide) h9) (by have := kKR_62.1 27 _ _ rfl; first | omega | decide | exact fun h9 => absurd (by decide) h9) (by have := kKR_62.1 27 _ _ rfl; first | omega | decide | exact fun h9 => absurd (by decide) h9) (by have e9 := iv4_62; rw [if_neg (by omega)] at e9 ⊢; rw [show ((i5_62 + 1).toInt).toNat = (i5_62.toInt).toNat + 1 from by omega]; show _ = if ra M0 o0 7 (20 * (v54.toInt).toNat + (i5_62.toInt).toNat) = ((x2.toInt.toNat : Nat) : Int) then ra M0 o0 8 (20 * (v54.toInt).toNat + (i5_62.toInt).toNat) else sc M0 o0 (20 * (v54.toInt).toNat) (i5_62.toInt).toNat x2.toInt.toNat (p_dv x2.toInt.toNat); rw [if_neg (by omega)]; exact e9) kKR_62 kK8_62 kKS678_62 (by have := kKR_62.1 27 _ _ rfl; omega))
                    · refine mv_aload_n d_TrustDeskModel_toldOn_94 rfl rfl ?_
                      obtain ⟨a79, q78, t_a79⟩ := tm_atR I_62 h_q0_62 (k := 8) rfl
                      refine tr_getK q78 d_TrustDeskModel_toldOn_95 f_TrustDeskModel_29_13 ?_
                      refine mv_bipush (v := 20) d_TrustDeskModel_toldOn_98 (by decide) ?_
                      refine mv_iload d_TrustDeskModel_toldOn_100 rfl ?_
                      refine mv_imul d_TrustDeskModel_toldOn_102 ?_
                      refine mv_iload d_TrustDeskModel_toldOn_103 rfl ?_
                      refine mv_iadd d_TrustDeskModel_toldOn_105 ?_
                      have b80 : (20 * v54 : Int32).toInt = (20 * v54.toInt) := mz_mul2 (by decide) rfl (by have := kKR_62.1 27 _ _ rfl; omega) (by have := kKR_62.1 27 _ _ rfl; omega)
                      have b81 : ((20 * v54) + i5_62 : Int32).toInt = ((20 * v54.toInt) + i5_62.toInt) := mz_add2 b80 rfl (by have := kKR_62.1 27 _ _ rfl; omega) (by have := kKR_62.1 27 _ _ rfl; omega)
                      refine tr_ialdR (o := o0) (k := 8) I_62 q78 t_a79 (by decide) d_TrustDeskModel_toldOn_106 (vp_in_iff.mpr (by have := kKR_62.1 27 _ _ rfl; omega)) (fun v82 e83 => ?_)
                      have := kKR_62.a (k := 8) rfl (((20 * v54) + i5_62) : Int32).toNatClampNeg
                      have := kK8_62 ((20 * v54) + i5_62).toNatClampNeg (by have := mz_nat9 (i := ((20 * v54) + i5_62)) (by have := kKR_62.1 27 _ _ rfl; omega); have := kKR_62.1 27 _ _ rfl; omega)
                      have : v82.toInt = ra M0 o0 8 (20 * (v54.toInt).toNat + (i5_62.toInt).toNat) := by rw [e83, show ((20 * v54) + i5_62).toNatClampNeg = 20 * (v54.toInt).toNat + (i5_62.toInt).toNat from by have := mz_nat9 (i := ((20 * v54) + i5_62)) (by have := kKR_62.1 27 _ _ rfl; omega); have := kKR_62.1 27 _ _ rfl; omega]; exact congrFun (kKS678_62 8 rfl) _
                      refine mv_istore_n (lv' := [(3, .int v82), (5, .int i5_62), (4, .int v54), (0, .ref o0), (1, .int x1), (2, .int x2)]) d_TrustDeskModel_toldOn_107 rfl (by decide) rfl ?_
                      refine mv_iinc (v := (i5_62 + 1)) (lv' := [(5, .int (i5_62 + 1)), (3, .int v82), (4, .int v54), (0, .ref o0), (1, .int x1), (2, .int x2)]) d_TrustDeskModel_toldOn_108 rfl rfl (by decide) rfl ?_
                      refine mv_goto (tgt := 59) d_TrustDeskModel_toldOn_111 (by decide) ?_
                      have := yR.2 6 _ _ rfl (v54.toInt).toNat
                      have b84 : (i5_62 + 1 : Int32).toInt = (i5_62.toInt + 1) := mz_add2 rfl (by decide) (by have := kKR_62.1 27 _ _ rfl; omega) (by have := kKR_62.1 27 _ _ rfl; omega)
                      refine mv_locals (lv' := [(5, .int (i5_62 + 1)), (4, .int v54), (3, .int v82), (0, .ref o0), (1, .int x1), (2, .int x2)]) (by intro q hq; simp only [List.mem_cons, List.not_mem_nil, or_false] at hq; rcases hq with rfl | rfl | rfl | rfl | rfl | rfl <;> rfl) ?_
                      have b85 : (i5_62 + 1).toInt = i5_62.toInt + 1 := mz_addn 1 1 (by decide) (by have := mz_lo i5_62; omega) (by have := mz_hi i5_62; omega)
                      exact (ih62 (i5_62 + 1) v82 T_62 M_62 n_62 I_62 h_q0_62 (by have := kKR_62.1 27 _ _ rfl; first | omega | decide | exact fun h9 => absurd (by decide) h9) (by have := kKR_62.1 27 _ _ rfl; first | omega | decide | exact fun h9 => absurd (by decide) h9) (by have := kKR_62.1 27 _ _ rfl; first | omega | decide | exact fun h9 => absurd (by decide) h9) (by have := kKR_62.1 27 _ _ rfl; first | omega | decide | exact fun h9 => absurd (by decide) h9) (by have e9 := iv4_62; rw [if_neg (by omega)] at e9 ⊢; rw [show ((i5_62 + 1).toInt).toNat = (i5_62.toInt).toNat + 1 from by omega]; show _ = if ra M0 o0 7 (20 * (v54.toInt).toNat + (i5_62.toInt).toNat) = ((x2.toInt.toNat : Nat) : Int) then ra M0 o0 8 (20 * (v54.toInt).toNat + (i5_62.toInt).toNat) else sc M0 o0 (20 * (v54.toInt).toNat) (i5_62.toInt).toNat x2.toInt.toNat (p_dv x2.toInt.toNat); rw [if_pos (by omega)]; omega) kKR_62 kK8_62 kKS678_62 (by have := kKR_62.1 27 _ _ rfl; omega))
            have := yR.2 6 _ _ rfl (v54.toInt).toNat
            have : (0 : Int32).toInt = 0 := by decide
            exact mv_less (Nat.zero_le _) (Nat.zero_le _) (L59_62 4294967296 0 0 T50 M48 n49 I52 t58 (by have := R55.1 27 _ _ rfl; first | omega | decide | exact fun h9 => absurd (by decide) h9) (by have := R55.1 27 _ _ rfl; first | omega | decide | exact fun h9 => absurd (by decide) h9) (by have := R55.1 27 _ _ rfl; first | omega | decide | exact fun h9 => absurd (by decide) h9) (by have := R55.1 27 _ _ rfl; first | omega | decide | exact fun h9 => absurd (by decide) h9) (by have e9 : (0 : Int32).toInt = p_dv x2.toInt.toNat := (by rw [show x2.toInt.toNat = 4 from by omega]; decide); rw [show ((0 : Int32).toInt).toNat = 0 from by decide]; split; exact e9; exact e9) R55 K60 K61 (by show (2147483647 - (0 : Int) : Int) < _; decide))
        · refine mv_bipush (v := 90) d_TrustDeskModel_toldOn_32 (by decide) ?_
          refine mv_goto (tgt := 48) d_TrustDeskModel_toldOn_34 (by decide) ?_
          refine mv_istore_n (lv' := [(3, .int 90), (0, .ref o0), (1, .int x1), (2, .int x2)]) d_TrustDeskModel_toldOn_48 rfl (by decide) rfl ?_
          refine mv_aload_n d_TrustDeskModel_toldOn_49 rfl rfl ?_
          refine mv_iload_n d_TrustDeskModel_toldOn_50 rfl rfl ?_
          obtain ⟨_, b92, -⟩ := I0.1 _ _ h_o0
          refine mv_callV (kc' := 0) (ks' := 0) (As := [.int x1]) (st9 := [.int x1, .ref o0]) d_TrustDeskModel_toldOn_51 lV_TrustDeskModel_391 b92 rfl (tc_TrustDeskModel_actOn_a (d := d) (x9 := x9) (o0 := o0) (x1 := x1) h_o0 yR I0.start) rfl (Nat.le_of_ble_eq_true rfl) (Nat.le_of_ble_eq_true rfl) (Nat.le_of_ble_eq_true rfl) (hst := rfl) (fun b86r M87 n88 b86 => ?_)
          obtain ⟨T89, J90, v93, rfl, R94, f95, f96⟩ := b86
          have I91 := I0.call J90 (tm_sub (by decide)) (Or.inl rfl)
          have t97 := J90.up h_o0
          have z98 := (rv_c I0 J90 (I0.up h_o0) (k := 27) rfl)
          have K99 : ∀ i : Nat, i < 880 → 0 ≤ ra M87 o0 8 i := (by have e9 := ((sA_c I0 J90 (I0.up h_o0) (by decide +kernel)) : sA [8] _ _ _) 8 rfl; rw [e9]; exact K1)
          have K100 : sA [6, 7, 8] M0 M87 o0 := K2.trans (sA_c I0 J90 (I0.up h_o0) (by decide +kernel))
          refine mv_istore (lv' := [(4, .int v93), (3, .int 90), (0, .ref o0), (1, .int x1), (2, .int x2)]) d_TrustDeskModel_toldOn_54 (by decide) rfl ?_
          refine mv_iconst (v := 0) d_TrustDeskModel_toldOn_56 (by decide) ?_
          refine mv_istore (lv' := [(5, .int 0), (4, .int v93), (3, .int 90), (0, .ref o0), (1, .int x1), (2, .int x2)]) d_TrustDeskModel_toldOn_57 (by decide) rfl ?_
          have L59_101 : ∀ (k : Nat) (i5_101 : Int32) (i3_101 : Int32) (T_101 : tm_H) (M_101 : mj_M) (n_101 : Nat), tm_I tm_FT (tm_in w_TrustDeskModel_toldOn_a) x9 T0 M0 n0 T_101 M_101 n_101 → T_101 o0 = some (0, 13, 0) → 0 ≤ i5_101.toInt → 0 ≤ i3_101.toInt → i3_101.toInt ≤ 720 → (v93.toInt = -1 ∨ i5_101.toInt ≤ ra M0 o0 6 (v93.toInt).toNat) → i3_101.toInt = (if v93.toInt = -1 then p_dv x2.toInt.toNat else sc M0 o0 (20 * (v93.toInt).toNat) (i5_101.toInt).toNat x2.toInt.toNat (p_dv x2.toInt.toNat)) → (rI M_101 o0) → (∀ i : Nat, i < 880 → 0 ≤ ra M_101 o0 8 i) → (sA [6, 7, 8] M0 M_101 o0) → 2147483647 - i5_101.toInt < (k : Int) → mj_V g l kY_TrustDeskModel_toldOn (d + 1) 59 [(5, .int i5_101), (4, .int v93), (3, .int i3_101), (0, .ref o0), (1, .int x1), (2, .int x2)] [] M_101 n_101 0 0 (tm_Q tm_FT (tm_in w_TrustDeskModel_toldOn_a) x9 T0 M0 n0 (fun r _ M => ∃ v : Int32, r = some (.int v) ∧ rI M o0 ∧ (0 ≤ v.toInt ∧ v.toInt ≤ 720) ∧ (v.toInt = p_tr M0 o0 x1.toInt x2.toInt.toNat))) := by
            intro k101
            induction k101 with
            | zero =>
              intro i5_101 i3_101 T_101 M_101 n_101 I_101 h_q0_101 iv0_101 iv1_101 iv2_101 iv3_101 iv4_101 kKR_101 kK8_101 kKS678_101 hk101
              have := mz_hi i5_101
              have := kKR_101.1 15 _ _ rfl
              have := kKR_101.1 16 _ _ rfl
              have := kKR_101.1 19 _ _ rfl
              omega
            | succ k101 ih101 =>
              intro i5_101 i3_101 T_101 M_101 n_101 I_101 h_q0_101 iv0_101 iv1_101 iv2_101 iv3_101 iv4_101 kKR_101 kK8_101 kKS678_101 hk101
              refine mv_iload d_TrustDeskModel_toldOn_59 rfl ?_
              refine mv_iconst (v := (-1)) d_TrustDeskModel_toldOn_61 (by decide) ?_
              have := mz_hi v93
              refine mv_icmp_eqZ (tgt := 114) (a := v93.toInt) (b := (-1)) d_TrustDeskModel_toldOn_62 (by decide) rfl (by decide) (fun b102 => ?_) (fun b102 => ?_)
              · refine mv_iload_n d_TrustDeskModel_toldOn_114 rfl rfl ?_
                exact mv_iret d_TrustDeskModel_toldOn_115 rfl (by first | rfl | decide) ⟨_, I_101, _, rfl, kKR_101, (by have := kKR_101.1 27 _ _ rfl; omega), (by have e9 := iv4_101; unfold p_tr; rw [← f96]; by_cases h9 : v93.toInt = -1; (rw [if_pos h9] at e9 ⊢; exact e9); (rw [if_neg h9] at e9 ⊢; rw [show (i5_101.toInt).toNat = (ra M0 o0 6 (v93.toInt).toNat).toNat from by omega] at e9; exact e9))⟩
              · refine mv_iload d_TrustDeskModel_toldOn_65 rfl ?_
                refine mv_aload_n d_TrustDeskModel_toldOn_67 rfl rfl ?_
                obtain ⟨a104, q103, t_a104⟩ := tm_atR I_101 h_q0_101 (k := 6) rfl
                refine tr_getK q103 d_TrustDeskModel_toldOn_68 f_TrustDeskModel_23_13 ?_
                refine mv_iload d_TrustDeskModel_toldOn_71 rfl ?_
                refine tr_ialdR (o := o0) (k := 6) I_101 q103 t_a104 (by decide) d_TrustDeskModel_toldOn_73 (vp_in_iff.mpr (by have := kKR_101.1 27 _ _ rfl; omega)) (fun v105 e106 => ?_)
                have := kKR_101.a (k := 6) rfl (v93 : Int32).toNatClampNeg
                have : v105.toInt = ra M0 o0 6 ((v93.toInt).toNat) := by rw [e106, show v93.toNatClampNeg = (v93.toInt).toNat from by have := mz_nat9 (i := v93) (by have := kKR_101.1 27 _ _ rfl; omega); have := kKR_101.1 27 _ _ rfl; omega]; exact congrFun (kKS678_101 6 rfl) _
                have := mz_hi i5_101
                have := mz_hi v105
                refine mv_icmp_geZ (tgt := 114) (a := i5_101.toInt) (b := v105.toInt) d_TrustDeskModel_toldOn_74 (by decide) rfl rfl (fun b107 => ?_) (fun b107 => ?_)
                · refine mv_iload_n d_TrustDeskModel_toldOn_114 rfl rfl ?_
                  exact mv_iret d_TrustDeskModel_toldOn_115 rfl (by first | rfl | decide) ⟨_, I_101, _, rfl, kKR_101, (by have := kKR_101.1 27 _ _ rfl; omega), (by have e9 := iv4_101; unfold p_tr; rw [← f96]; by_cases h9 : v93.toInt = -1; (rw [if_pos h9] at e9 ⊢; exact e9); (rw [if_neg h9] at e9 ⊢; rw [show (i5_101.toInt).toNat = (ra M0 o0 6 (v93.toInt).toNat).toNat from by omega] at e9; exact e9))⟩
                · refine mv_aload_n d_TrustDeskModel_toldOn_77 rfl rfl ?_
                  obtain ⟨a109, q108, t_a109⟩ := tm_atR I_101 h_q0_101 (k := 7) rfl
                  refine tr_getK q108 d_TrustDeskModel_toldOn_78 f_TrustDeskModel_26_13 ?_
                  refine mv_bipush (v := 20) d_TrustDeskModel_toldOn_81 (by decide) ?_
                  refine mv_iload d_TrustDeskModel_toldOn_83 rfl ?_
                  refine mv_imul d_TrustDeskModel_toldOn_85 ?_
                  refine mv_iload d_TrustDeskModel_toldOn_86 rfl ?_
                  refine mv_iadd d_TrustDeskModel_toldOn_88 ?_
                  have b110 : (20 * v93 : Int32).toInt = (20 * v93.toInt) := mz_mul2 (by decide) rfl (by have := kKR_101.1 27 _ _ rfl; omega) (by have := kKR_101.1 27 _ _ rfl; omega)
                  have b111 : ((20 * v93) + i5_101 : Int32).toInt = ((20 * v93.toInt) + i5_101.toInt) := mz_add2 b110 rfl (by have := kKR_101.1 27 _ _ rfl; omega) (by have := kKR_101.1 27 _ _ rfl; omega)
                  refine tr_ialdR (o := o0) (k := 7) I_101 q108 t_a109 (by decide) d_TrustDeskModel_toldOn_89 (vp_in_iff.mpr (by have := kKR_101.1 27 _ _ rfl; omega)) (fun v112 e113 => ?_)
                  have : v112.toInt = ra M0 o0 7 (20 * (v93.toInt).toNat + (i5_101.toInt).toNat) := by rw [e113, show ((20 * v93) + i5_101).toNatClampNeg = 20 * (v93.toInt).toNat + (i5_101.toInt).toNat from by have := mz_nat9 (i := ((20 * v93) + i5_101)) (by have := kKR_101.1 27 _ _ rfl; omega); have := kKR_101.1 27 _ _ rfl; omega]; exact congrFun (kKS678_101 7 rfl) _
                  refine mv_iload_n d_TrustDeskModel_toldOn_90 rfl rfl ?_
                  have := mz_hi v112
                  have := mz_hi x2
                  refine mv_icmp_neZ (tgt := 108) (a := v112.toInt) (b := x2.toInt) d_TrustDeskModel_toldOn_91 (by decide) rfl rfl (fun b114 => ?_) (fun b114 => ?_)
                  · refine mv_iinc (v := (i5_101 + 1)) (lv' := [(5, .int (i5_101 + 1)), (4, .int v93), (3, .int i3_101), (0, .ref o0), (1, .int x1), (2, .int x2)]) d_TrustDeskModel_toldOn_108 rfl rfl (by decide) rfl ?_
                    refine mv_goto (tgt := 59) d_TrustDeskModel_toldOn_111 (by decide) ?_
                    have := yR.2 6 _ _ rfl (v93.toInt).toNat
                    have b115 : (i5_101 + 1 : Int32).toInt = (i5_101.toInt + 1) := mz_add2 rfl (by decide) (by have := kKR_101.1 27 _ _ rfl; omega) (by have := kKR_101.1 27 _ _ rfl; omega)
                    have b116 : (i5_101 + 1).toInt = i5_101.toInt + 1 := mz_addn 1 1 (by decide) (by have := mz_lo i5_101; omega) (by have := mz_hi i5_101; omega)
                    exact (ih101 (i5_101 + 1) i3_101 T_101 M_101 n_101 I_101 h_q0_101 (by have := kKR_101.1 27 _ _ rfl; first | omega | decide | exact fun h9 => absurd (by decide) h9) (by have := kKR_101.1 27 _ _ rfl; first | omega | decide | exact fun h9 => absurd (by decide) h9) (by have := kKR_101.1 27 _ _ rfl; first | omega | decide | exact fun h9 => absurd (by decide) h9) (by have := kKR_101.1 27 _ _ rfl; first | omega | decide | exact fun h9 => absurd (by decide) h9) (by have e9 := iv4_101; rw [if_neg (by omega)] at e9 ⊢; rw [show ((i5_101 + 1).toInt).toNat = (i5_101.toInt).toNat + 1 from by omega]; show _ = if ra M0 o0 7 (20 * (v93.toInt).toNat + (i5_101.toInt).toNat) = ((x2.toInt.toNat : Nat) : Int) then ra M0 o0 8 (20 * (v93.toInt).toNat + (i5_101.toInt).toNat) else sc M0 o0 (20 * (v93.toInt).toNat) (i5_101.toInt).toNat x2.toInt.toNat (p_dv x2.toInt.toNat); rw [if_neg (by omega)]; exact e9) kKR_101 kK8_101 kKS678_101 (by have := kKR_101.1 27 _ _ rfl; omega))
                  · refine mv_aload_n d_TrustDeskModel_toldOn_94 rfl rfl ?_
                    obtain ⟨a118, q117, t_a118⟩ := tm_atR I_101 h_q0_101 (k := 8) rfl
                    refine tr_getK q117 d_TrustDeskModel_toldOn_95 f_TrustDeskModel_29_13 ?_
                    refine mv_bipush (v := 20) d_TrustDeskModel_toldOn_98 (by decide) ?_
                    refine mv_iload d_TrustDeskModel_toldOn_100 rfl ?_
                    refine mv_imul d_TrustDeskModel_toldOn_102 ?_
                    refine mv_iload d_TrustDeskModel_toldOn_103 rfl ?_
                    refine mv_iadd d_TrustDeskModel_toldOn_105 ?_
                    have b119 : (20 * v93 : Int32).toInt = (20 * v93.toInt) := mz_mul2 (by decide) rfl (by have := kKR_101.1 27 _ _ rfl; omega) (by have := kKR_101.1 27 _ _ rfl; omega)
                    have b120 : ((20 * v93) + i5_101 : Int32).toInt = ((20 * v93.toInt) + i5_101.toInt) := mz_add2 b119 rfl (by have := kKR_101.1 27 _ _ rfl; omega) (by have := kKR_101.1 27 _ _ rfl; omega)
                    refine tr_ialdR (o := o0) (k := 8) I_101 q117 t_a118 (by decide) d_TrustDeskModel_toldOn_106 (vp_in_iff.mpr (by have := kKR_101.1 27 _ _ rfl; omega)) (fun v121 e122 => ?_)
                    have := kKR_101.a (k := 8) rfl (((20 * v93) + i5_101) : Int32).toNatClampNeg
                    have := kK8_101 ((20 * v93) + i5_101).toNatClampNeg (by have := mz_nat9 (i := ((20 * v93) + i5_101)) (by have := kKR_101.1 27 _ _ rfl; omega); have := kKR_101.1 27 _ _ rfl; omega)
                    have : v121.toInt = ra M0 o0 8 (20 * (v93.toInt).toNat + (i5_101.toInt).toNat) := by rw [e122, show ((20 * v93) + i5_101).toNatClampNeg = 20 * (v93.toInt).toNat + (i5_101.toInt).toNat from by have := mz_nat9 (i := ((20 * v93) + i5_101)) (by have := kKR_101.1 27 _ _ rfl; omega); have := kKR_101.1 27 _ _ rfl; omega]; exact congrFun (kKS678_101 8 rfl) _
                    refine mv_istore_n (lv' := [(3, .int v121), (5, .int i5_101), (4, .int v93), (0, .ref o0), (1, .int x1), (2, .int x2)]) d_TrustDeskModel_toldOn_107 rfl (by decide) rfl ?_
                    refine mv_iinc (v := (i5_101 + 1)) (lv' := [(5, .int (i5_101 + 1)), (3, .int v121), (4, .int v93), (0, .ref o0), (1, .int x1), (2, .int x2)]) d_TrustDeskModel_toldOn_108 rfl rfl (by decide) rfl ?_
                    refine mv_goto (tgt := 59) d_TrustDeskModel_toldOn_111 (by decide) ?_
                    have := yR.2 6 _ _ rfl (v93.toInt).toNat
                    have b123 : (i5_101 + 1 : Int32).toInt = (i5_101.toInt + 1) := mz_add2 rfl (by decide) (by have := kKR_101.1 27 _ _ rfl; omega) (by have := kKR_101.1 27 _ _ rfl; omega)
                    refine mv_locals (lv' := [(5, .int (i5_101 + 1)), (4, .int v93), (3, .int v121), (0, .ref o0), (1, .int x1), (2, .int x2)]) (by intro q hq; simp only [List.mem_cons, List.not_mem_nil, or_false] at hq; rcases hq with rfl | rfl | rfl | rfl | rfl | rfl <;> rfl) ?_
                    have b124 : (i5_101 + 1).toInt = i5_101.toInt + 1 := mz_addn 1 1 (by decide) (by have := mz_lo i5_101; omega) (by have := mz_hi i5_101; omega)
                    exact (ih101 (i5_101 + 1) v121 T_101 M_101 n_101 I_101 h_q0_101 (by have := kKR_101.1 27 _ _ rfl; first | omega | decide | exact fun h9 => absurd (by decide) h9) (by have := kKR_101.1 27 _ _ rfl; first | omega | decide | exact fun h9 => absurd (by decide) h9) (by have := kKR_101.1 27 _ _ rfl; first | omega | decide | exact fun h9 => absurd (by decide) h9) (by have := kKR_101.1 27 _ _ rfl; first | omega | decide | exact fun h9 => absurd (by decide) h9) (by have e9 := iv4_101; rw [if_neg (by omega)] at e9 ⊢; rw [show ((i5_101 + 1).toInt).toNat = (i5_101.toInt).toNat + 1 from by omega]; show _ = if ra M0 o0 7 (20 * (v93.toInt).toNat + (i5_101.toInt).toNat) = ((x2.toInt.toNat : Nat) : Int) then ra M0 o0 8 (20 * (v93.toInt).toNat + (i5_101.toInt).toNat) else sc M0 o0 (20 * (v93.toInt).toNat) (i5_101.toInt).toNat x2.toInt.toNat (p_dv x2.toInt.toNat); rw [if_pos (by omega)]; omega) kKR_101 kK8_101 kKS678_101 (by have := kKR_101.1 27 _ _ rfl; omega))
          have := yR.2 6 _ _ rfl (v93.toInt).toNat
          have : (0 : Int32).toInt = 0 := by decide
          have : (90 : Int32).toInt = 90 := by decide
          exact mv_less (Nat.zero_le _) (Nat.zero_le _) (L59_101 4294967296 0 90 T89 M87 n88 I91 t97 (by have := R94.1 27 _ _ rfl; first | omega | decide | exact fun h9 => absurd (by decide) h9) (by have := R94.1 27 _ _ rfl; first | omega | decide | exact fun h9 => absurd (by decide) h9) (by have := R94.1 27 _ _ rfl; first | omega | decide | exact fun h9 => absurd (by decide) h9) (by have := R94.1 27 _ _ rfl; first | omega | decide | exact fun h9 => absurd (by decide) h9) (by have e9 : (90 : Int32).toInt = p_dv x2.toInt.toNat := (by rw [show x2.toInt.toNat = 3 from by omega]; decide); rw [show ((0 : Int32).toInt).toNat = 0 from by decide]; split; exact e9; exact e9) R94 K99 K100 (by show (2147483647 - (0 : Int) : Int) < _; decide))
      · refine mv_bipush (v := 30) d_TrustDeskModel_toldOn_22 (by decide) ?_
        refine mv_goto (tgt := 48) d_TrustDeskModel_toldOn_24 (by decide) ?_
        refine mv_istore_n (lv' := [(3, .int 30), (0, .ref o0), (1, .int x1), (2, .int x2)]) d_TrustDeskModel_toldOn_48 rfl (by decide) rfl ?_
        refine mv_aload_n d_TrustDeskModel_toldOn_49 rfl rfl ?_
        refine mv_iload_n d_TrustDeskModel_toldOn_50 rfl rfl ?_
        obtain ⟨_, b131, -⟩ := I0.1 _ _ h_o0
        refine mv_callV (kc' := 0) (ks' := 0) (As := [.int x1]) (st9 := [.int x1, .ref o0]) d_TrustDeskModel_toldOn_51 lV_TrustDeskModel_391 b131 rfl (tc_TrustDeskModel_actOn_a (d := d) (x9 := x9) (o0 := o0) (x1 := x1) h_o0 yR I0.start) rfl (Nat.le_of_ble_eq_true rfl) (Nat.le_of_ble_eq_true rfl) (Nat.le_of_ble_eq_true rfl) (hst := rfl) (fun b125r M126 n127 b125 => ?_)
        obtain ⟨T128, J129, v132, rfl, R133, f134, f135⟩ := b125
        have I130 := I0.call J129 (tm_sub (by decide)) (Or.inl rfl)
        have t136 := J129.up h_o0
        have z137 := (rv_c I0 J129 (I0.up h_o0) (k := 27) rfl)
        have K138 : ∀ i : Nat, i < 880 → 0 ≤ ra M126 o0 8 i := (by have e9 := ((sA_c I0 J129 (I0.up h_o0) (by decide +kernel)) : sA [8] _ _ _) 8 rfl; rw [e9]; exact K1)
        have K139 : sA [6, 7, 8] M0 M126 o0 := K2.trans (sA_c I0 J129 (I0.up h_o0) (by decide +kernel))
        refine mv_istore (lv' := [(4, .int v132), (3, .int 30), (0, .ref o0), (1, .int x1), (2, .int x2)]) d_TrustDeskModel_toldOn_54 (by decide) rfl ?_
        refine mv_iconst (v := 0) d_TrustDeskModel_toldOn_56 (by decide) ?_
        refine mv_istore (lv' := [(5, .int 0), (4, .int v132), (3, .int 30), (0, .ref o0), (1, .int x1), (2, .int x2)]) d_TrustDeskModel_toldOn_57 (by decide) rfl ?_
        have L59_140 : ∀ (k : Nat) (i5_140 : Int32) (i3_140 : Int32) (T_140 : tm_H) (M_140 : mj_M) (n_140 : Nat), tm_I tm_FT (tm_in w_TrustDeskModel_toldOn_a) x9 T0 M0 n0 T_140 M_140 n_140 → T_140 o0 = some (0, 13, 0) → 0 ≤ i5_140.toInt → 0 ≤ i3_140.toInt → i3_140.toInt ≤ 720 → (v132.toInt = -1 ∨ i5_140.toInt ≤ ra M0 o0 6 (v132.toInt).toNat) → i3_140.toInt = (if v132.toInt = -1 then p_dv x2.toInt.toNat else sc M0 o0 (20 * (v132.toInt).toNat) (i5_140.toInt).toNat x2.toInt.toNat (p_dv x2.toInt.toNat)) → (rI M_140 o0) → (∀ i : Nat, i < 880 → 0 ≤ ra M_140 o0 8 i) → (sA [6, 7, 8] M0 M_140 o0) → 2147483647 - i5_140.toInt < (k : Int) → mj_V g l kY_TrustDeskModel_toldOn (d + 1) 59 [(5, .int i5_140), (4, .int v132), (3, .int i3_140), (0, .ref o0), (1, .int x1), (2, .int x2)] [] M_140 n_140 0 0 (tm_Q tm_FT (tm_in w_TrustDeskModel_toldOn_a) x9 T0 M0 n0 (fun r _ M => ∃ v : Int32, r = some (.int v) ∧ rI M o0 ∧ (0 ≤ v.toInt ∧ v.toInt ≤ 720) ∧ (v.toInt = p_tr M0 o0 x1.toInt x2.toInt.toNat))) := by
          intro k140
          induction k140 with
          | zero =>
            intro i5_140 i3_140 T_140 M_140 n_140 I_140 h_q0_140 iv0_140 iv1_140 iv2_140 iv3_140 iv4_140 kKR_140 kK8_140 kKS678_140 hk140
            have := mz_hi i5_140
            have := kKR_140.1 15 _ _ rfl
            have := kKR_140.1 16 _ _ rfl
            have := kKR_140.1 19 _ _ rfl
            omega
          | succ k140 ih140 =>
            intro i5_140 i3_140 T_140 M_140 n_140 I_140 h_q0_140 iv0_140 iv1_140 iv2_140 iv3_140 iv4_140 kKR_140 kK8_140 kKS678_140 hk140
            refine mv_iload d_TrustDeskModel_toldOn_59 rfl ?_
            refine mv_iconst (v := (-1)) d_TrustDeskModel_toldOn_61 (by decide) ?_
            have := mz_hi v132
            refine mv_icmp_eqZ (tgt := 114) (a := v132.toInt) (b := (-1)) d_TrustDeskModel_toldOn_62 (by decide) rfl (by decide) (fun b141 => ?_) (fun b141 => ?_)
            · refine mv_iload_n d_TrustDeskModel_toldOn_114 rfl rfl ?_
              exact mv_iret d_TrustDeskModel_toldOn_115 rfl (by first | rfl | decide) ⟨_, I_140, _, rfl, kKR_140, (by have := kKR_140.1 27 _ _ rfl; omega), (by have e9 := iv4_140; unfold p_tr; rw [← f135]; by_cases h9 : v132.toInt = -1; (rw [if_pos h9] at e9 ⊢; exact e9); (rw [if_neg h9] at e9 ⊢; rw [show (i5_140.toInt).toNat = (ra M0 o0 6 (v132.toInt).toNat).toNat from by omega] at e9; exact e9))⟩
            · refine mv_iload d_TrustDeskModel_toldOn_65 rfl ?_
              refine mv_aload_n d_TrustDeskModel_toldOn_67 rfl rfl ?_
              obtain ⟨a143, q142, t_a143⟩ := tm_atR I_140 h_q0_140 (k := 6) rfl
              refine tr_getK q142 d_TrustDeskModel_toldOn_68 f_TrustDeskModel_23_13 ?_
              refine mv_iload d_TrustDeskModel_toldOn_71 rfl ?_
              refine tr_ialdR (o := o0) (k := 6) I_140 q142 t_a143 (by decide) d_TrustDeskModel_toldOn_73 (vp_in_iff.mpr (by have := kKR_140.1 27 _ _ rfl; omega)) (fun v144 e145 => ?_)
              have := kKR_140.a (k := 6) rfl (v132 : Int32).toNatClampNeg
              have : v144.toInt = ra M0 o0 6 ((v132.toInt).toNat) := by rw [e145, show v132.toNatClampNeg = (v132.toInt).toNat from by have := mz_nat9 (i := v132) (by have := kKR_140.1 27 _ _ rfl; omega); have := kKR_140.1 27 _ _ rfl; omega]; exact congrFun (kKS678_140 6 rfl) _
              have := mz_hi i5_140
              have := mz_hi v144
              refine mv_icmp_geZ (tgt := 114) (a := i5_140.toInt) (b := v144.toInt) d_TrustDeskModel_toldOn_74 (by decide) rfl rfl (fun b146 => ?_) (fun b146 => ?_)
              · refine mv_iload_n d_TrustDeskModel_toldOn_114 rfl rfl ?_
                exact mv_iret d_TrustDeskModel_toldOn_115 rfl (by first | rfl | decide) ⟨_, I_140, _, rfl, kKR_140, (by have := kKR_140.1 27 _ _ rfl; omega), (by have e9 := iv4_140; unfold p_tr; rw [← f135]; by_cases h9 : v132.toInt = -1; (rw [if_pos h9] at e9 ⊢; exact e9); (rw [if_neg h9] at e9 ⊢; rw [show (i5_140.toInt).toNat = (ra M0 o0 6 (v132.toInt).toNat).toNat from by omega] at e9; exact e9))⟩
              · refine mv_aload_n d_TrustDeskModel_toldOn_77 rfl rfl ?_
                obtain ⟨a148, q147, t_a148⟩ := tm_atR I_140 h_q0_140 (k := 7) rfl
                refine tr_getK q147 d_TrustDeskModel_toldOn_78 f_TrustDeskModel_26_13 ?_
                refine mv_bipush (v := 20) d_TrustDeskModel_toldOn_81 (by decide) ?_
                refine mv_iload d_TrustDeskModel_toldOn_83 rfl ?_
                refine mv_imul d_TrustDeskModel_toldOn_85 ?_
                refine mv_iload d_TrustDeskModel_toldOn_86 rfl ?_
                refine mv_iadd d_TrustDeskModel_toldOn_88 ?_
                have b149 : (20 * v132 : Int32).toInt = (20 * v132.toInt) := mz_mul2 (by decide) rfl (by have := kKR_140.1 27 _ _ rfl; omega) (by have := kKR_140.1 27 _ _ rfl; omega)
                have b150 : ((20 * v132) + i5_140 : Int32).toInt = ((20 * v132.toInt) + i5_140.toInt) := mz_add2 b149 rfl (by have := kKR_140.1 27 _ _ rfl; omega) (by have := kKR_140.1 27 _ _ rfl; omega)
                refine tr_ialdR (o := o0) (k := 7) I_140 q147 t_a148 (by decide) d_TrustDeskModel_toldOn_89 (vp_in_iff.mpr (by have := kKR_140.1 27 _ _ rfl; omega)) (fun v151 e152 => ?_)
                have : v151.toInt = ra M0 o0 7 (20 * (v132.toInt).toNat + (i5_140.toInt).toNat) := by rw [e152, show ((20 * v132) + i5_140).toNatClampNeg = 20 * (v132.toInt).toNat + (i5_140.toInt).toNat from by have := mz_nat9 (i := ((20 * v132) + i5_140)) (by have := kKR_140.1 27 _ _ rfl; omega); have := kKR_140.1 27 _ _ rfl; omega]; exact congrFun (kKS678_140 7 rfl) _
                refine mv_iload_n d_TrustDeskModel_toldOn_90 rfl rfl ?_
                have := mz_hi v151
                have := mz_hi x2
                refine mv_icmp_neZ (tgt := 108) (a := v151.toInt) (b := x2.toInt) d_TrustDeskModel_toldOn_91 (by decide) rfl rfl (fun b153 => ?_) (fun b153 => ?_)
                · refine mv_iinc (v := (i5_140 + 1)) (lv' := [(5, .int (i5_140 + 1)), (4, .int v132), (3, .int i3_140), (0, .ref o0), (1, .int x1), (2, .int x2)]) d_TrustDeskModel_toldOn_108 rfl rfl (by decide) rfl ?_
                  refine mv_goto (tgt := 59) d_TrustDeskModel_toldOn_111 (by decide) ?_
                  have := yR.2 6 _ _ rfl (v132.toInt).toNat
                  have b154 : (i5_140 + 1 : Int32).toInt = (i5_140.toInt + 1) := mz_add2 rfl (by decide) (by have := kKR_140.1 27 _ _ rfl; omega) (by have := kKR_140.1 27 _ _ rfl; omega)
                  have b155 : (i5_140 + 1).toInt = i5_140.toInt + 1 := mz_addn 1 1 (by decide) (by have := mz_lo i5_140; omega) (by have := mz_hi i5_140; omega)
                  exact (ih140 (i5_140 + 1) i3_140 T_140 M_140 n_140 I_140 h_q0_140 (by have := kKR_140.1 27 _ _ rfl; first | omega | decide | exact fun h9 => absurd (by decide) h9) (by have := kKR_140.1 27 _ _ rfl; first | omega | decide | exact fun h9 => absurd (by decide) h9) (by have := kKR_140.1 27 _ _ rfl; first | omega | decide | exact fun h9 => absurd (by decide) h9) (by have := kKR_140.1 27 _ _ rfl; first | omega | decide | exact fun h9 => absurd (by decide) h9) (by have e9 := iv4_140; rw [if_neg (by omega)] at e9 ⊢; rw [show ((i5_140 + 1).toInt).toNat = (i5_140.toInt).toNat + 1 from by omega]; show _ = if ra M0 o0 7 (20 * (v132.toInt).toNat + (i5_140.toInt).toNat) = ((x2.toInt.toNat : Nat) : Int) then ra M0 o0 8 (20 * (v132.toInt).toNat + (i5_140.toInt).toNat) else sc M0 o0 (20 * (v132.toInt).toNat) (i5_140.toInt).toNat x2.toInt.toNat (p_dv x2.toInt.toNat); rw [if_neg (by omega)]; exact e9) kKR_140 kK8_140 kKS678_140 (by have := kKR_140.1 27 _ _ rfl; omega))
                · refine mv_aload_n d_TrustDeskModel_toldOn_94 rfl rfl ?_
                  obtain ⟨a157, q156, t_a157⟩ := tm_atR I_140 h_q0_140 (k := 8) rfl
                  refine tr_getK q156 d_TrustDeskModel_toldOn_95 f_TrustDeskModel_29_13 ?_
                  refine mv_bipush (v := 20) d_TrustDeskModel_toldOn_98 (by decide) ?_
                  refine mv_iload d_TrustDeskModel_toldOn_100 rfl ?_
                  refine mv_imul d_TrustDeskModel_toldOn_102 ?_
                  refine mv_iload d_TrustDeskModel_toldOn_103 rfl ?_
                  refine mv_iadd d_TrustDeskModel_toldOn_105 ?_
                  have b158 : (20 * v132 : Int32).toInt = (20 * v132.toInt) := mz_mul2 (by decide) rfl (by have := kKR_140.1 27 _ _ rfl; omega) (by have := kKR_140.1 27 _ _ rfl; omega)
                  have b159 : ((20 * v132) + i5_140 : Int32).toInt = ((20 * v132.toInt) + i5_140.toInt) := mz_add2 b158 rfl (by have := kKR_140.1 27 _ _ rfl; omega) (by have := kKR_140.1 27 _ _ rfl; omega)
                  refine tr_ialdR (o := o0) (k := 8) I_140 q156 t_a157 (by decide) d_TrustDeskModel_toldOn_106 (vp_in_iff.mpr (by have := kKR_140.1 27 _ _ rfl; omega)) (fun v160 e161 => ?_)
                  have := kKR_140.a (k := 8) rfl (((20 * v132) + i5_140) : Int32).toNatClampNeg
                  have := kK8_140 ((20 * v132) + i5_140).toNatClampNeg (by have := mz_nat9 (i := ((20 * v132) + i5_140)) (by have := kKR_140.1 27 _ _ rfl; omega); have := kKR_140.1 27 _ _ rfl; omega)
                  have : v160.toInt = ra M0 o0 8 (20 * (v132.toInt).toNat + (i5_140.toInt).toNat) := by rw [e161, show ((20 * v132) + i5_140).toNatClampNeg = 20 * (v132.toInt).toNat + (i5_140.toInt).toNat from by have := mz_nat9 (i := ((20 * v132) + i5_140)) (by have := kKR_140.1 27 _ _ rfl; omega); have := kKR_140.1 27 _ _ rfl; omega]; exact congrFun (kKS678_140 8 rfl) _
                  refine mv_istore_n (lv' := [(3, .int v160), (5, .int i5_140), (4, .int v132), (0, .ref o0), (1, .int x1), (2, .int x2)]) d_TrustDeskModel_toldOn_107 rfl (by decide) rfl ?_
                  refine mv_iinc (v := (i5_140 + 1)) (lv' := [(5, .int (i5_140 + 1)), (3, .int v160), (4, .int v132), (0, .ref o0), (1, .int x1), (2, .int x2)]) d_TrustDeskModel_toldOn_108 rfl rfl (by decide) rfl ?_
                  refine mv_goto (tgt := 59) d_TrustDeskModel_toldOn_111 (by decide) ?_
                  have := yR.2 6 _ _ rfl (v132.toInt).toNat
                  have b162 : (i5_140 + 1 : Int32).toInt = (i5_140.toInt + 1) := mz_add2 rfl (by decide) (by have := kKR_140.1 27 _ _ rfl; omega) (by have := kKR_140.1 27 _ _ rfl; omega)
                  refine mv_locals (lv' := [(5, .int (i5_140 + 1)), (4, .int v132), (3, .int v160), (0, .ref o0), (1, .int x1), (2, .int x2)]) (by intro q hq; simp only [List.mem_cons, List.not_mem_nil, or_false] at hq; rcases hq with rfl | rfl | rfl | rfl | rfl | rfl <;> rfl) ?_
                  have b163 : (i5_140 + 1).toInt = i5_140.toInt + 1 := mz_addn 1 1 (by decide) (by have := mz_lo i5_140; omega) (by have := mz_hi i5_140; omega)
                  exact (ih140 (i5_140 + 1) v160 T_140 M_140 n_140 I_140 h_q0_140 (by have := kKR_140.1 27 _ _ rfl; first | omega | decide | exact fun h9 => absurd (by decide) h9) (by have := kKR_140.1 27 _ _ rfl; first | omega | decide | exact fun h9 => absurd (by decide) h9) (by have := kKR_140.1 27 _ _ rfl; first | omega | decide | exact fun h9 => absurd (by decide) h9) (by have := kKR_140.1 27 _ _ rfl; first | omega | decide | exact fun h9 => absurd (by decide) h9) (by have e9 := iv4_140; rw [if_neg (by omega)] at e9 ⊢; rw [show ((i5_140 + 1).toInt).toNat = (i5_140.toInt).toNat + 1 from by omega]; show _ = if ra M0 o0 7 (20 * (v132.toInt).toNat + (i5_140.toInt).toNat) = ((x2.toInt.toNat : Nat) : Int) then ra M0 o0 8 (20 * (v132.toInt).toNat + (i5_140.toInt).toNat) else sc M0 o0 (20 * (v132.toInt).toNat) (i5_140.toInt).toNat x2.toInt.toNat (p_dv x2.toInt.toNat); rw [if_pos (by omega)]; omega) kKR_140 kK8_140 kKS678_140 (by have := kKR_140.1 27 _ _ rfl; omega))
        have := yR.2 6 _ _ rfl (v132.toInt).toNat
        have : (0 : Int32).toInt = 0 := by decide
        have : (30 : Int32).toInt = 30 := by decide
        exact mv_less (Nat.zero_le _) (Nat.zero_le _) (L59_140 4294967296 0 30 T128 M126 n127 I130 t136 (by have := R133.1 27 _ _ rfl; first | omega | decide | exact fun h9 => absurd (by decide) h9) (by have := R133.1 27 _ _ rfl; first | omega | decide | exact fun h9 => absurd (by decide) h9) (by have := R133.1 27 _ _ rfl; first | omega | decide | exact fun h9 => absurd (by decide) h9) (by have := R133.1 27 _ _ rfl; first | omega | decide | exact fun h9 => absurd (by decide) h9) (by have e9 : (30 : Int32).toInt = p_dv x2.toInt.toNat := (by rw [show x2.toInt.toNat = 2 from by omega]; decide); rw [show ((0 : Int32).toInt).toNat = 0 from by decide]; split; exact e9; exact e9) R133 K138 K139 (by show (2147483647 - (0 : Int) : Int) < _; decide))
    · refine mv_iconst (v := 1) d_TrustDeskModel_toldOn_13 (by decide) ?_
      refine mv_goto (tgt := 48) d_TrustDeskModel_toldOn_14 (by decide) ?_
      refine mv_istore_n (lv' := [(3, .int 1), (0, .ref o0), (1, .int x1), (2, .int x2)]) d_TrustDeskModel_toldOn_48 rfl (by decide) rfl ?_
      refine mv_aload_n d_TrustDeskModel_toldOn_49 rfl rfl ?_
      refine mv_iload_n d_TrustDeskModel_toldOn_50 rfl rfl ?_
      obtain ⟨_, b170, -⟩ := I0.1 _ _ h_o0
      refine mv_callV (kc' := 0) (ks' := 0) (As := [.int x1]) (st9 := [.int x1, .ref o0]) d_TrustDeskModel_toldOn_51 lV_TrustDeskModel_391 b170 rfl (tc_TrustDeskModel_actOn_a (d := d) (x9 := x9) (o0 := o0) (x1 := x1) h_o0 yR I0.start) rfl (Nat.le_of_ble_eq_true rfl) (Nat.le_of_ble_eq_true rfl) (Nat.le_of_ble_eq_true rfl) (hst := rfl) (fun b164r M165 n166 b164 => ?_)
      obtain ⟨T167, J168, v171, rfl, R172, f173, f174⟩ := b164
      have I169 := I0.call J168 (tm_sub (by decide)) (Or.inl rfl)
      have t175 := J168.up h_o0
      have z176 := (rv_c I0 J168 (I0.up h_o0) (k := 27) rfl)
      have K177 : ∀ i : Nat, i < 880 → 0 ≤ ra M165 o0 8 i := (by have e9 := ((sA_c I0 J168 (I0.up h_o0) (by decide +kernel)) : sA [8] _ _ _) 8 rfl; rw [e9]; exact K1)
      have K178 : sA [6, 7, 8] M0 M165 o0 := K2.trans (sA_c I0 J168 (I0.up h_o0) (by decide +kernel))
      refine mv_istore (lv' := [(4, .int v171), (3, .int 1), (0, .ref o0), (1, .int x1), (2, .int x2)]) d_TrustDeskModel_toldOn_54 (by decide) rfl ?_
      refine mv_iconst (v := 0) d_TrustDeskModel_toldOn_56 (by decide) ?_
      refine mv_istore (lv' := [(5, .int 0), (4, .int v171), (3, .int 1), (0, .ref o0), (1, .int x1), (2, .int x2)]) d_TrustDeskModel_toldOn_57 (by decide) rfl ?_
      have L59_179 : ∀ (k : Nat) (i5_179 : Int32) (i3_179 : Int32) (T_179 : tm_H) (M_179 : mj_M) (n_179 : Nat), tm_I tm_FT (tm_in w_TrustDeskModel_toldOn_a) x9 T0 M0 n0 T_179 M_179 n_179 → T_179 o0 = some (0, 13, 0) → 0 ≤ i5_179.toInt → 0 ≤ i3_179.toInt → i3_179.toInt ≤ 720 → (v171.toInt = -1 ∨ i5_179.toInt ≤ ra M0 o0 6 (v171.toInt).toNat) → i3_179.toInt = (if v171.toInt = -1 then p_dv x2.toInt.toNat else sc M0 o0 (20 * (v171.toInt).toNat) (i5_179.toInt).toNat x2.toInt.toNat (p_dv x2.toInt.toNat)) → (rI M_179 o0) → (∀ i : Nat, i < 880 → 0 ≤ ra M_179 o0 8 i) → (sA [6, 7, 8] M0 M_179 o0) → 2147483647 - i5_179.toInt < (k : Int) → mj_V g l kY_TrustDeskModel_toldOn (d + 1) 59 [(5, .int i5_179), (4, .int v171), (3, .int i3_179), (0, .ref o0), (1, .int x1), (2, .int x2)] [] M_179 n_179 0 0 (tm_Q tm_FT (tm_in w_TrustDeskModel_toldOn_a) x9 T0 M0 n0 (fun r _ M => ∃ v : Int32, r = some (.int v) ∧ rI M o0 ∧ (0 ≤ v.toInt ∧ v.toInt ≤ 720) ∧ (v.toInt = p_tr M0 o0 x1.toInt x2.toInt.toNat))) := by
        intro k179
        induction k179 with
        | zero =>
          intro i5_179 i3_179 T_179 M_179 n_179 I_179 h_q0_179 iv0_179 iv1_179 iv2_179 iv3_179 iv4_179 kKR_179 kK8_179 kKS678_179 hk179
          have := mz_hi i5_179
          have := kKR_179.1 15 _ _ rfl
          have := kKR_179.1 16 _ _ rfl
          have := kKR_179.1 19 _ _ rfl
          omega
        | succ k179 ih179 =>
          intro i5_179 i3_179 T_179 M_179 n_179 I_179 h_q0_179 iv0_179 iv1_179 iv2_179 iv3_179 iv4_179 kKR_179 kK8_179 kKS678_179 hk179
          refine mv_iload d_TrustDeskModel_toldOn_59 rfl ?_
          refine mv_iconst (v := (-1)) d_TrustDeskModel_toldOn_61 (by decide) ?_
          have := mz_hi v171
          refine mv_icmp_eqZ (tgt := 114) (a := v171.toInt) (b := (-1)) d_TrustDeskModel_toldOn_62 (by decide) rfl (by decide) (fun b180 => ?_) (fun b180 => ?_)
          · refine mv_iload_n d_TrustDeskModel_toldOn_114 rfl rfl ?_
            exact mv_iret d_TrustDeskModel_toldOn_115 rfl (by first | rfl | decide) ⟨_, I_179, _, rfl, kKR_179, (by have := kKR_179.1 27 _ _ rfl; omega), (by have e9 := iv4_179; unfold p_tr; rw [← f174]; by_cases h9 : v171.toInt = -1; (rw [if_pos h9] at e9 ⊢; exact e9); (rw [if_neg h9] at e9 ⊢; rw [show (i5_179.toInt).toNat = (ra M0 o0 6 (v171.toInt).toNat).toNat from by omega] at e9; exact e9))⟩
          · refine mv_iload d_TrustDeskModel_toldOn_65 rfl ?_
            refine mv_aload_n d_TrustDeskModel_toldOn_67 rfl rfl ?_
            obtain ⟨a182, q181, t_a182⟩ := tm_atR I_179 h_q0_179 (k := 6) rfl
            refine tr_getK q181 d_TrustDeskModel_toldOn_68 f_TrustDeskModel_23_13 ?_
            refine mv_iload d_TrustDeskModel_toldOn_71 rfl ?_
            refine tr_ialdR (o := o0) (k := 6) I_179 q181 t_a182 (by decide) d_TrustDeskModel_toldOn_73 (vp_in_iff.mpr (by have := kKR_179.1 27 _ _ rfl; omega)) (fun v183 e184 => ?_)
            have := kKR_179.a (k := 6) rfl (v171 : Int32).toNatClampNeg
            have : v183.toInt = ra M0 o0 6 ((v171.toInt).toNat) := by rw [e184, show v171.toNatClampNeg = (v171.toInt).toNat from by have := mz_nat9 (i := v171) (by have := kKR_179.1 27 _ _ rfl; omega); have := kKR_179.1 27 _ _ rfl; omega]; exact congrFun (kKS678_179 6 rfl) _
            have := mz_hi i5_179
            have := mz_hi v183
            refine mv_icmp_geZ (tgt := 114) (a := i5_179.toInt) (b := v183.toInt) d_TrustDeskModel_toldOn_74 (by decide) rfl rfl (fun b185 => ?_) (fun b185 => ?_)
            · refine mv_iload_n d_TrustDeskModel_toldOn_114 rfl rfl ?_
              exact mv_iret d_TrustDeskModel_toldOn_115 rfl (by first | rfl | decide) ⟨_, I_179, _, rfl, kKR_179, (by have := kKR_179.1 27 _ _ rfl; omega), (by have e9 := iv4_179; unfold p_tr; rw [← f174]; by_cases h9 : v171.toInt = -1; (rw [if_pos h9] at e9 ⊢; exact e9); (rw [if_neg h9] at e9 ⊢; rw [show (i5_179.toInt).toNat = (ra M0 o0 6 (v171.toInt).toNat).toNat from by omega] at e9; exact e9))⟩
            · refine mv_aload_n d_TrustDeskModel_toldOn_77 rfl rfl ?_
              obtain ⟨a187, q186, t_a187⟩ := tm_atR I_179 h_q0_179 (k := 7) rfl
              refine tr_getK q186 d_TrustDeskModel_toldOn_78 f_TrustDeskModel_26_13 ?_
              refine mv_bipush (v := 20) d_TrustDeskModel_toldOn_81 (by decide) ?_
              refine mv_iload d_TrustDeskModel_toldOn_83 rfl ?_
              refine mv_imul d_TrustDeskModel_toldOn_85 ?_
              refine mv_iload d_TrustDeskModel_toldOn_86 rfl ?_
              refine mv_iadd d_TrustDeskModel_toldOn_88 ?_
              have b188 : (20 * v171 : Int32).toInt = (20 * v171.toInt) := mz_mul2 (by decide) rfl (by have := kKR_179.1 27 _ _ rfl; omega) (by have := kKR_179.1 27 _ _ rfl; omega)
              have b189 : ((20 * v171) + i5_179 : Int32).toInt = ((20 * v171.toInt) + i5_179.toInt) := mz_add2 b188 rfl (by have := kKR_179.1 27 _ _ rfl; omega) (by have := kKR_179.1 27 _ _ rfl; omega)
              refine tr_ialdR (o := o0) (k := 7) I_179 q186 t_a187 (by decide) d_TrustDeskModel_toldOn_89 (vp_in_iff.mpr (by have := kKR_179.1 27 _ _ rfl; omega)) (fun v190 e191 => ?_)
              have : v190.toInt = ra M0 o0 7 (20 * (v171.toInt).toNat + (i5_179.toInt).toNat) := by rw [e191, show ((20 * v171) + i5_179).toNatClampNeg = 20 * (v171.toInt).toNat + (i5_179.toInt).toNat from by have := mz_nat9 (i := ((20 * v171) + i5_179)) (by have := kKR_179.1 27 _ _ rfl; omega); have := kKR_179.1 27 _ _ rfl; omega]; exact congrFun (kKS678_179 7 rfl) _
              refine mv_iload_n d_TrustDeskModel_toldOn_90 rfl rfl ?_
              have := mz_hi v190
              have := mz_hi x2
              refine mv_icmp_neZ (tgt := 108) (a := v190.toInt) (b := x2.toInt) d_TrustDeskModel_toldOn_91 (by decide) rfl rfl (fun b192 => ?_) (fun b192 => ?_)
              · refine mv_iinc (v := (i5_179 + 1)) (lv' := [(5, .int (i5_179 + 1)), (4, .int v171), (3, .int i3_179), (0, .ref o0), (1, .int x1), (2, .int x2)]) d_TrustDeskModel_toldOn_108 rfl rfl (by decide) rfl ?_
                refine mv_goto (tgt := 59) d_TrustDeskModel_toldOn_111 (by decide) ?_
                have := yR.2 6 _ _ rfl (v171.toInt).toNat
                have b193 : (i5_179 + 1 : Int32).toInt = (i5_179.toInt + 1) := mz_add2 rfl (by decide) (by have := kKR_179.1 27 _ _ rfl; omega) (by have := kKR_179.1 27 _ _ rfl; omega)
                have b194 : (i5_179 + 1).toInt = i5_179.toInt + 1 := mz_addn 1 1 (by decide) (by have := mz_lo i5_179; omega) (by have := mz_hi i5_179; omega)
                exact (ih179 (i5_179 + 1) i3_179 T_179 M_179 n_179 I_179 h_q0_179 (by have := kKR_179.1 27 _ _ rfl; first | omega | decide | exact fun h9 => absurd (by decide) h9) (by have := kKR_179.1 27 _ _ rfl; first | omega | decide | exact fun h9 => absurd (by decide) h9) (by have := kKR_179.1 27 _ _ rfl; first | omega | decide | exact fun h9 => absurd (by decide) h9) (by have := kKR_179.1 27 _ _ rfl; first | omega | decide | exact fun h9 => absurd (by decide) h9) (by have e9 := iv4_179; rw [if_neg (by omega)] at e9 ⊢; rw [show ((i5_179 + 1).toInt).toNat = (i5_179.toInt).toNat + 1 from by omega]; show _ = if ra M0 o0 7 (20 * (v171.toInt).toNat + (i5_179.toInt).toNat) = ((x2.toInt.toNat : Nat) : Int) then ra M0 o0 8 (20 * (v171.toInt).toNat + (i5_179.toInt).toNat) else sc M0 o0 (20 * (v171.toInt).toNat) (i5_179.toInt).toNat x2.toInt.toNat (p_dv x2.toInt.toNat); rw [if_neg (by omega)]; exact e9) kKR_179 kK8_179 kKS678_179 (by have := kKR_179.1 27 _ _ rfl; omega))
              · refine mv_aload_n d_TrustDeskModel_toldOn_94 rfl rfl ?_
                obtain ⟨a196, q195, t_a196⟩ := tm_atR I_179 h_q0_179 (k := 8) rfl
                refine tr_getK q195 d_TrustDeskModel_toldOn_95 f_TrustDeskModel_29_13 ?_
                refine mv_bipush (v := 20) d_TrustDeskModel_toldOn_98 (by decide) ?_
                refine mv_iload d_TrustDeskModel_toldOn_100 rfl ?_
                refine mv_imul d_TrustDeskModel_toldOn_102 ?_
                refine mv_iload d_TrustDeskModel_toldOn_103 rfl ?_
                refine mv_iadd d_TrustDeskModel_toldOn_105 ?_
                have b197 : (20 * v171 : Int32).toInt = (20 * v171.toInt) := mz_mul2 (by decide) rfl (by have := kKR_179.1 27 _ _ rfl; omega) (by have := kKR_179.1 27 _ _ rfl; omega)
                have b198 : ((20 * v171) + i5_179 : Int32).toInt = ((20 * v171.toInt) + i5_179.toInt) := mz_add2 b197 rfl (by have := kKR_179.1 27 _ _ rfl; omega) (by have := kKR_179.1 27 _ _ rfl; omega)
                refine tr_ialdR (o := o0) (k := 8) I_179 q195 t_a196 (by decide) d_TrustDeskModel_toldOn_106 (vp_in_iff.mpr (by have := kKR_179.1 27 _ _ rfl; omega)) (fun v199 e200 => ?_)
                have := kKR_179.a (k := 8) rfl (((20 * v171) + i5_179) : Int32).toNatClampNeg
                have := kK8_179 ((20 * v171) + i5_179).toNatClampNeg (by have := mz_nat9 (i := ((20 * v171) + i5_179)) (by have := kKR_179.1 27 _ _ rfl; omega); have := kKR_179.1 27 _ _ rfl; omega)
                have : v199.toInt = ra M0 o0 8 (20 * (v171.toInt).toNat + (i5_179.toInt).toNat) := by rw [e200, show ((20 * v171) + i5_179).toNatClampNeg = 20 * (v171.toInt).toNat + (i5_179.toInt).toNat from by have := mz_nat9 (i := ((20 * v171) + i5_179)) (by have := kKR_179.1 27 _ _ rfl; omega); have := kKR_179.1 27 _ _ rfl; omega]; exact congrFun (kKS678_179 8 rfl) _
                refine mv_istore_n (lv' := [(3, .int v199), (5, .int i5_179), (4, .int v171), (0, .ref o0), (1, .int x1), (2, .int x2)]) d_TrustDeskModel_toldOn_107 rfl (by decide) rfl ?_
                refine mv_iinc (v := (i5_179 + 1)) (lv' := [(5, .int (i5_179 + 1)), (3, .int v199), (4, .int v171), (0, .ref o0), (1, .int x1), (2, .int x2)]) d_TrustDeskModel_toldOn_108 rfl rfl (by decide) rfl ?_
                refine mv_goto (tgt := 59) d_TrustDeskModel_toldOn_111 (by decide) ?_
                have := yR.2 6 _ _ rfl (v171.toInt).toNat
                have b201 : (i5_179 + 1 : Int32).toInt = (i5_179.toInt + 1) := mz_add2 rfl (by decide) (by have := kKR_179.1 27 _ _ rfl; omega) (by have := kKR_179.1 27 _ _ rfl; omega)
                refine mv_locals (lv' := [(5, .int (i5_179 + 1)), (4, .int v171), (3, .int v199), (0, .ref o0), (1, .int x1), (2, .int x2)]) (by intro q hq; simp only [List.mem_cons, List.not_mem_nil, or_false] at hq; rcases hq with rfl | rfl | rfl | rfl | rfl | rfl <;> rfl) ?_
                have b202 : (i5_179 + 1).toInt = i5_179.toInt + 1 := mz_addn 1 1 (by decide) (by have := mz_lo i5_179; omega) (by have := mz_hi i5_179; omega)
                exact (ih179 (i5_179 + 1) v199 T_179 M_179 n_179 I_179 h_q0_179 (by have := kKR_179.1 27 _ _ rfl; first | omega | decide | exact fun h9 => absurd (by decide) h9) (by have := kKR_179.1 27 _ _ rfl; first | omega | decide | exact fun h9 => absurd (by decide) h9) (by have := kKR_179.1 27 _ _ rfl; first | omega | decide | exact fun h9 => absurd (by decide) h9) (by have := kKR_179.1 27 _ _ rfl; first | omega | decide | exact fun h9 => absurd (by decide) h9) (by have e9 := iv4_179; rw [if_neg (by omega)] at e9 ⊢; rw [show ((i5_179 + 1).toInt).toNat = (i5_179.toInt).toNat + 1 from by omega]; show _ = if ra M0 o0 7 (20 * (v171.toInt).toNat + (i5_179.toInt).toNat) = ((x2.toInt.toNat : Nat) : Int) then ra M0 o0 8 (20 * (v171.toInt).toNat + (i5_179.toInt).toNat) else sc M0 o0 (20 * (v171.toInt).toNat) (i5_179.toInt).toNat x2.toInt.toNat (p_dv x2.toInt.toNat); rw [if_pos (by omega)]; omega) kKR_179 kK8_179 kKS678_179 (by have := kKR_179.1 27 _ _ rfl; omega))
      have := yR.2 6 _ _ rfl (v171.toInt).toNat
      have : (0 : Int32).toInt = 0 := by decide
      have : (1 : Int32).toInt = 1 := by decide
      exact mv_less (Nat.zero_le _) (Nat.zero_le _) (L59_179 4294967296 0 1 T167 M165 n166 I169 t175 (by have := R172.1 27 _ _ rfl; first | omega | decide | exact fun h9 => absurd (by decide) h9) (by have := R172.1 27 _ _ rfl; first | omega | decide | exact fun h9 => absurd (by decide) h9) (by have := R172.1 27 _ _ rfl; first | omega | decide | exact fun h9 => absurd (by decide) h9) (by have := R172.1 27 _ _ rfl; first | omega | decide | exact fun h9 => absurd (by decide) h9) (by have e9 : (1 : Int32).toInt = p_dv x2.toInt.toNat := (by rw [show x2.toInt.toNat = 1 from by omega]; decide); rw [show ((0 : Int32).toInt).toNat = 0 from by decide]; split; exact e9; exact e9) R172 K177 K178 (by show (2147483647 - (0 : Int) : Int) < _; decide))
  · refine mv_iconst (v := 3) d_TrustDeskModel_toldOn_4 (by decide) ?_
    refine mv_goto (tgt := 48) d_TrustDeskModel_toldOn_5 (by decide) ?_
    refine mv_istore_n (lv' := [(3, .int 3), (0, .ref o0), (1, .int x1), (2, .int x2)]) d_TrustDeskModel_toldOn_48 rfl (by decide) rfl ?_
    refine mv_aload_n d_TrustDeskModel_toldOn_49 rfl rfl ?_
    refine mv_iload_n d_TrustDeskModel_toldOn_50 rfl rfl ?_
    obtain ⟨_, b209, -⟩ := I0.1 _ _ h_o0
    refine mv_callV (kc' := 0) (ks' := 0) (As := [.int x1]) (st9 := [.int x1, .ref o0]) d_TrustDeskModel_toldOn_51 lV_TrustDeskModel_391 b209 rfl (tc_TrustDeskModel_actOn_a (d := d) (x9 := x9) (o0 := o0) (x1 := x1) h_o0 yR I0.start) rfl (Nat.le_of_ble_eq_true rfl) (Nat.le_of_ble_eq_true rfl) (Nat.le_of_ble_eq_true rfl) (hst := rfl) (fun b203r M204 n205 b203 => ?_)
    obtain ⟨T206, J207, v210, rfl, R211, f212, f213⟩ := b203
    have I208 := I0.call J207 (tm_sub (by decide)) (Or.inl rfl)
    have t214 := J207.up h_o0
    have z215 := (rv_c I0 J207 (I0.up h_o0) (k := 27) rfl)
    have K216 : ∀ i : Nat, i < 880 → 0 ≤ ra M204 o0 8 i := (by have e9 := ((sA_c I0 J207 (I0.up h_o0) (by decide +kernel)) : sA [8] _ _ _) 8 rfl; rw [e9]; exact K1)
    have K217 : sA [6, 7, 8] M0 M204 o0 := K2.trans (sA_c I0 J207 (I0.up h_o0) (by decide +kernel))
    refine mv_istore (lv' := [(4, .int v210), (3, .int 3), (0, .ref o0), (1, .int x1), (2, .int x2)]) d_TrustDeskModel_toldOn_54 (by decide) rfl ?_
    refine mv_iconst (v := 0) d_TrustDeskModel_toldOn_56 (by decide) ?_
    refine mv_istore (lv' := [(5, .int 0), (4, .int v210), (3, .int 3), (0, .ref o0), (1, .int x1), (2, .int x2)]) d_TrustDeskModel_toldOn_57 (by decide) rfl ?_
    have L59_218 : ∀ (k : Nat) (i5_218 : Int32) (i3_218 : Int32) (T_218 : tm_H) (M_218 : mj_M) (n_218 : Nat), tm_I tm_FT (tm_in w_TrustDeskModel_toldOn_a) x9 T0 M0 n0 T_218 M_218 n_218 → T_218 o0 = some (0, 13, 0) → 0 ≤ i5_218.toInt → 0 ≤ i3_218.toInt → i3_218.toInt ≤ 720 → (v210.toInt = -1 ∨ i5_218.toInt ≤ ra M0 o0 6 (v210.toInt).toNat) → i3_218.toInt = (if v210.toInt = -1 then p_dv x2.toInt.toNat else sc M0 o0 (20 * (v210.toInt).toNat) (i5_218.toInt).toNat x2.toInt.toNat (p_dv x2.toInt.toNat)) → (rI M_218 o0) → (∀ i : Nat, i < 880 → 0 ≤ ra M_218 o0 8 i) → (sA [6, 7, 8] M0 M_218 o0) → 2147483647 - i5_218.toInt < (k : Int) → mj_V g l kY_TrustDeskModel_toldOn (d + 1) 59 [(5, .int i5_218), (4, .int v210), (3, .int i3_218), (0, .ref o0), (1, .int x1), (2, .int x2)] [] M_218 n_218 0 0 (tm_Q tm_FT (tm_in w_TrustDeskModel_toldOn_a) x9 T0 M0 n0 (fun r _ M => ∃ v : Int32, r = some (.int v) ∧ rI M o0 ∧ (0 ≤ v.toInt ∧ v.toInt ≤ 720) ∧ (v.toInt = p_tr M0 o0 x1.toInt x2.toInt.toNat))) := by
      intro k218
      induction k218 with
      | zero =>
        intro i5_218 i3_218 T_218 M_218 n_218 I_218 h_q0_218 iv0_218 iv1_218 iv2_218 iv3_218 iv4_218 kKR_218 kK8_218 kKS678_218 hk218
        have := mz_hi i5_218
        have := kKR_218.1 15 _ _ rfl
        have := kKR_218.1 16 _ _ rfl
        have := kKR_218.1 19 _ _ rfl
        omega
      | succ k218 ih218 =>
        intro i5_218 i3_218 T_218 M_218 n_218 I_218 h_q0_218 iv0_218 iv1_218 iv2_218 iv3_218 iv4_218 kKR_218 kK8_218 kKS678_218 hk218
        refine mv_iload d_TrustDeskModel_toldOn_59 rfl ?_
        refine mv_iconst (v := (-1)) d_TrustDeskModel_toldOn_61 (by decide) ?_
        have := mz_hi v210
        refine mv_icmp_eqZ (tgt := 114) (a := v210.toInt) (b := (-1)) d_TrustDeskModel_toldOn_62 (by decide) rfl (by decide) (fun b219 => ?_) (fun b219 => ?_)
        · refine mv_iload_n d_TrustDeskModel_toldOn_114 rfl rfl ?_
          exact mv_iret d_TrustDeskModel_toldOn_115 rfl (by first | rfl | decide) ⟨_, I_218, _, rfl, kKR_218, (by have := kKR_218.1 27 _ _ rfl; omega), (by have e9 := iv4_218; unfold p_tr; rw [← f213]; by_cases h9 : v210.toInt = -1; (rw [if_pos h9] at e9 ⊢; exact e9); (rw [if_neg h9] at e9 ⊢; rw [show (i5_218.toInt).toNat = (ra M0 o0 6 (v210.toInt).toNat).toNat from by omega] at e9; exact e9))⟩
        · refine mv_iload d_TrustDeskModel_toldOn_65 rfl ?_
          refine mv_aload_n d_TrustDeskModel_toldOn_67 rfl rfl ?_
          obtain ⟨a221, q220, t_a221⟩ := tm_atR I_218 h_q0_218 (k := 6) rfl
          refine tr_getK q220 d_TrustDeskModel_toldOn_68 f_TrustDeskModel_23_13 ?_
          refine mv_iload d_TrustDeskModel_toldOn_71 rfl ?_
          refine tr_ialdR (o := o0) (k := 6) I_218 q220 t_a221 (by decide) d_TrustDeskModel_toldOn_73 (vp_in_iff.mpr (by have := kKR_218.1 27 _ _ rfl; omega)) (fun v222 e223 => ?_)
          have := kKR_218.a (k := 6) rfl (v210 : Int32).toNatClampNeg
          have : v222.toInt = ra M0 o0 6 ((v210.toInt).toNat) := by rw [e223, show v210.toNatClampNeg = (v210.toInt).toNat from by have := mz_nat9 (i := v210) (by have := kKR_218.1 27 _ _ rfl; omega); have := kKR_218.1 27 _ _ rfl; omega]; exact congrFun (kKS678_218 6 rfl) _
          have := mz_hi i5_218
          have := mz_hi v222
          refine mv_icmp_geZ (tgt := 114) (a := i5_218.toInt) (b := v222.toInt) d_TrustDeskModel_toldOn_74 (by decide) rfl rfl (fun b224 => ?_) (fun b224 => ?_)
          · refine mv_iload_n d_TrustDeskModel_toldOn_114 rfl rfl ?_
            exact mv_iret d_TrustDeskModel_toldOn_115 rfl (by first | rfl | decide) ⟨_, I_218, _, rfl, kKR_218, (by have := kKR_218.1 27 _ _ rfl; omega), (by have e9 := iv4_218; unfold p_tr; rw [← f213]; by_cases h9 : v210.toInt = -1; (rw [if_pos h9] at e9 ⊢; exact e9); (rw [if_neg h9] at e9 ⊢; rw [show (i5_218.toInt).toNat = (ra M0 o0 6 (v210.toInt).toNat).toNat from by omega] at e9; exact e9))⟩
          · refine mv_aload_n d_TrustDeskModel_toldOn_77 rfl rfl ?_
            obtain ⟨a226, q225, t_a226⟩ := tm_atR I_218 h_q0_218 (k := 7) rfl
            refine tr_getK q225 d_TrustDeskModel_toldOn_78 f_TrustDeskModel_26_13 ?_
            refine mv_bipush (v := 20) d_TrustDeskModel_toldOn_81 (by decide) ?_
            refine mv_iload d_TrustDeskModel_toldOn_83 rfl ?_
            refine mv_imul d_TrustDeskModel_toldOn_85 ?_
            refine mv_iload d_TrustDeskModel_toldOn_86 rfl ?_
            refine mv_iadd d_TrustDeskModel_toldOn_88 ?_
            have b227 : (20 * v210 : Int32).toInt = (20 * v210.toInt) := mz_mul2 (by decide) rfl (by have := kKR_218.1 27 _ _ rfl; omega) (by have := kKR_218.1 27 _ _ rfl; omega)
            have b228 : ((20 * v210) + i5_218 : Int32).toInt = ((20 * v210.toInt) + i5_218.toInt) := mz_add2 b227 rfl (by have := kKR_218.1 27 _ _ rfl; omega) (by have := kKR_218.1 27 _ _ rfl; omega)
            refine tr_ialdR (o := o0) (k := 7) I_218 q225 t_a226 (by decide) d_TrustDeskModel_toldOn_89 (vp_in_iff.mpr (by have := kKR_218.1 27 _ _ rfl; omega)) (fun v229 e230 => ?_)
            have : v229.toInt = ra M0 o0 7 (20 * (v210.toInt).toNat + (i5_218.toInt).toNat) := by rw [e230, show ((20 * v210) + i5_218).toNatClampNeg = 20 * (v210.toInt).toNat + (i5_218.toInt).toNat from by have := mz_nat9 (i := ((20 * v210) + i5_218)) (by have := kKR_218.1 27 _ _ rfl; omega); have := kKR_218.1 27 _ _ rfl; omega]; exact congrFun (kKS678_218 7 rfl) _
            refine mv_iload_n d_TrustDeskModel_toldOn_90 rfl rfl ?_
            have := mz_hi v229
            have := mz_hi x2
            refine mv_icmp_neZ (tgt := 108) (a := v229.toInt) (b := x2.toInt) d_TrustDeskModel_toldOn_91 (by decide) rfl rfl (fun b231 => ?_) (fun b231 => ?_)
            · refine mv_iinc (v := (i5_218 + 1)) (lv' := [(5, .int (i5_218 + 1)), (4, .int v210), (3, .int i3_218), (0, .ref o0), (1, .int x1), (2, .int x2)]) d_TrustDeskModel_toldOn_108 rfl rfl (by decide) rfl ?_
              refine mv_goto (tgt := 59) d_TrustDeskModel_toldOn_111 (by decide) ?_
              have := yR.2 6 _ _ rfl (v210.toInt).toNat
              have b232 : (i5_218 + 1 : Int32).toInt = (i5_218.toInt + 1) := mz_add2 rfl (by decide) (by have := kKR_218.1 27 _ _ rfl; omega) (by have := kKR_218.1 27 _ _ rfl; omega)
              have b233 : (i5_218 + 1).toInt = i5_218.toInt + 1 := mz_addn 1 1 (by decide) (by have := mz_lo i5_218; omega) (by have := mz_hi i5_218; omega)
              exact (ih218 (i5_218 + 1) i3_218 T_218 M_218 n_218 I_218 h_q0_218 (by have := kKR_218.1 27 _ _ rfl; first | omega | decide | exact fun h9 => absurd (by decide) h9) (by have := kKR_218.1 27 _ _ rfl; first | omega | decide | exact fun h9 => absurd (by decide) h9) (by have := kKR_218.1 27 _ _ rfl; first | omega | decide | exact fun h9 => absurd (by decide) h9) (by have := kKR_218.1 27 _ _ rfl; first | omega | decide | exact fun h9 => absurd (by decide) h9) (by have e9 := iv4_218; rw [if_neg (by omega)] at e9 ⊢; rw [show ((i5_218 + 1).toInt).toNat = (i5_218.toInt).toNat + 1 from by omega]; show _ = if ra M0 o0 7 (20 * (v210.toInt).toNat + (i5_218.toInt).toNat) = ((x2.toInt.toNat : Nat) : Int) then ra M0 o0 8 (20 * (v210.toInt).toNat + (i5_218.toInt).toNat) else sc M0 o0 (20 * (v210.toInt).toNat) (i5_218.toInt).toNat x2.toInt.toNat (p_dv x2.toInt.toNat); rw [if_neg (by omega)]; exact e9) kKR_218 kK8_218 kKS678_218 (by have := kKR_218.1 27 _ _ rfl; omega))
            · refine mv_aload_n d_TrustDeskModel_toldOn_94 rfl rfl ?_
              obtain ⟨a235, q234, t_a235⟩ := tm_atR I_218 h_q0_218 (k := 8) rfl
              refine tr_getK q234 d_TrustDeskModel_toldOn_95 f_TrustDeskModel_29_13 ?_
              refine mv_bipush (v := 20) d_TrustDeskModel_toldOn_98 (by decide) ?_
              refine mv_iload d_TrustDeskModel_toldOn_100 rfl ?_
              refine mv_imul d_TrustDeskModel_toldOn_102 ?_
              refine mv_iload d_TrustDeskModel_toldOn_103 rfl ?_
              refine mv_iadd d_TrustDeskModel_toldOn_105 ?_
              have b236 : (20 * v210 : Int32).toInt = (20 * v210.toInt) := mz_mul2 (by decide) rfl (by have := kKR_218.1 27 _ _ rfl; omega) (by have := kKR_218.1 27 _ _ rfl; omega)
              have b237 : ((20 * v210) + i5_218 : Int32).toInt = ((20 * v210.toInt) + i5_218.toInt) := mz_add2 b236 rfl (by have := kKR_218.1 27 _ _ rfl; omega) (by have := kKR_218.1 27 _ _ rfl; omega)
              refine tr_ialdR (o := o0) (k := 8) I_218 q234 t_a235 (by decide) d_TrustDeskModel_toldOn_106 (vp_in_iff.mpr (by have := kKR_218.1 27 _ _ rfl; omega)) (fun v238 e239 => ?_)
              have := kKR_218.a (k := 8) rfl (((20 * v210) + i5_218) : Int32).toNatClampNeg
              have := kK8_218 ((20 * v210) + i5_218).toNatClampNeg (by have := mz_nat9 (i := ((20 * v210) + i5_218)) (by have := kKR_218.1 27 _ _ rfl; omega); have := kKR_218.1 27 _ _ rfl; omega)
              have : v238.toInt = ra M0 o0 8 (20 * (v210.toInt).toNat + (i5_218.toInt).toNat) := by rw [e239, show ((20 * v210) + i5_218).toNatClampNeg = 20 * (v210.toInt).toNat + (i5_218.toInt).toNat from by have := mz_nat9 (i := ((20 * v210) + i5_218)) (by have := kKR_218.1 27 _ _ rfl; omega); have := kKR_218.1 27 _ _ rfl; omega]; exact congrFun (kKS678_218 8 rfl) _
              refine mv_istore_n (lv' := [(3, .int v238), (5, .int i5_218), (4, .int v210), (0, .ref o0), (1, .int x1), (2, .int x2)]) d_TrustDeskModel_toldOn_107 rfl (by decide) rfl ?_
              refine mv_iinc (v := (i5_218 + 1)) (lv' := [(5, .int (i5_218 + 1)), (3, .int v238), (4, .int v210), (0, .ref o0), (1, .int x1), (2, .int x2)]) d_TrustDeskModel_toldOn_108 rfl rfl (by decide) rfl ?_
              refine mv_goto (tgt := 59) d_TrustDeskModel_toldOn_111 (by decide) ?_
              have := yR.2 6 _ _ rfl (v210.toInt).toNat
              have b240 : (i5_218 + 1 : Int32).toInt = (i5_218.toInt + 1) := mz_add2 rfl (by decide) (by have := kKR_218.1 27 _ _ rfl; omega) (by have := kKR_218.1 27 _ _ rfl; omega)
              refine mv_locals (lv' := [(5, .int (i5_218 + 1)), (4, .int v210), (3, .int v238), (0, .ref o0), (1, .int x1), (2, .int x2)]) (by intro q hq; simp only [List.mem_cons, List.not_mem_nil, or_false] at hq; rcases hq with rfl | rfl | rfl | rfl | rfl | rfl <;> rfl) ?_
              have b241 : (i5_218 + 1).toInt = i5_218.toInt + 1 := mz_addn 1 1 (by decide) (by have := mz_lo i5_218; omega) (by have := mz_hi i5_218; omega)
              exact (ih218 (i5_218 + 1) v238 T_218 M_218 n_218 I_218 h_q0_218 (by have := kKR_218.1 27 _ _ rfl; first | omega | decide | exact fun h9 => absurd (by decide) h9) (by have := kKR_218.1 27 _ _ rfl; first | omega | decide | exact fun h9 => absurd (by decide) h9) (by have := kKR_218.1 27 _ _ rfl; first | omega | decide | exact fun h9 => absurd (by decide) h9) (by have := kKR_218.1 27 _ _ rfl; first | omega | decide | exact fun h9 => absurd (by decide) h9) (by have e9 := iv4_218; rw [if_neg (by omega)] at e9 ⊢; rw [show ((i5_218 + 1).toInt).toNat = (i5_218.toInt).toNat + 1 from by omega]; show _ = if ra M0 o0 7 (20 * (v210.toInt).toNat + (i5_218.toInt).toNat) = ((x2.toInt.toNat : Nat) : Int) then ra M0 o0 8 (20 * (v210.toInt).toNat + (i5_218.toInt).toNat) else sc M0 o0 (20 * (v210.toInt).toNat) (i5_218.toInt).toNat x2.toInt.toNat (p_dv x2.toInt.toNat); rw [if_pos (by omega)]; omega) kKR_218 kK8_218 kKS678_218 (by have := kKR_218.1 27 _ _ rfl; omega))
    have := yR.2 6 _ _ rfl (v210.toInt).toNat
    have : (0 : Int32).toInt = 0 := by decide
    have : (3 : Int32).toInt = 3 := by decide
    exact mv_less (Nat.zero_le _) (Nat.zero_le _) (L59_218 4294967296 0 3 T206 M204 n205 I208 t214 (by have := R211.1 27 _ _ rfl; first | omega | decide | exact fun h9 => absurd (by decide) h9) (by have := R211.1 27 _ _ rfl; first | omega | decide | exact fun h9 => absurd (by decide) h9) (by have := R211.1 27 _ _ rfl; first | omega | decide | exact fun h9 => absurd (by decide) h9) (by have := R211.1 27 _ _ rfl; first | omega | decide | exact fun h9 => absurd (by decide) h9) (by have e9 : (3 : Int32).toInt = p_dv x2.toInt.toNat := (by rw [show x2.toInt.toNat = 0 from by omega]; decide); rw [show ((0 : Int32).toInt).toNat = 0 from by decide]; split; exact e9; exact e9) R211 K216 K217 (by show (2147483647 - (0 : Int) : Int) < _; decide))
def w_TrustDeskModel_holds_a : List Nat := [1300]
set_option maxHeartbeats 100000000 in theorem tc_TrustDeskModel_holds_a {g : mj_G} {l : Launch} {d : Nat} {T0 : tm_H} {M0 : mj_M} {n0 x9 : Nat} {o0 : Nat} {x1 : Int32} {x2 : Int32} (h_o0 : T0 o0 = some (0, 13, 0)) (yR : rI M0 o0) (y8 : ∀ i : Nat, i < 880 → 0 ≤ ra M0 o0 8 i) (I0 : tm_I tm_FT (tm_in w_TrustDeskModel_holds_a) x9 T0 M0 n0 T0 M0 n0) : mj_Met g l kY_TrustDeskModel_holds (d + 2) [.ref o0, .int x1, .int x2] M0 n0 0 0 (tm_Q tm_FT (tm_in w_TrustDeskModel_holds_a) x9 T0 M0 n0 (fun r _ M => ∃ v : Int32, r = some (.int v) ∧ rI M o0 ∧ ((v.toInt = -1 ∧ ¬ (0 ≤ x1.toInt ∧ x1.toInt ≤ 36000 ∧ 0 ≤ x2.toInt ∧ x2.toInt ≤ 5)) ∨ ((0 ≤ x1.toInt ∧ x1.toInt ≤ 36000 ∧ 0 ≤ x2.toInt ∧ x2.toInt ≤ 5) ∧ v.toInt = p_tr M0 o0 x1.toInt x2.toInt.toNat)))) := by
  refine mj_enter (by decide) (Nat.le_of_ble_eq_true rfl) ?_
  have K1 : ∀ i : Nat, i < 880 → 0 ≤ ra M0 o0 8 i := y8
  have K2 : sA [6, 7, 8, 28] M0 M0 o0 := sA.rf
  refine mv_aload_n d_TrustDeskModel_holds_0 rfl rfl ?_
  refine mv_iconst (v := 0) d_TrustDeskModel_holds_1 (by decide) ?_
  refine tr_putR (k := 0) I0 yR h_o0 rfl ⟨_, rfl⟩ (fun _ h => by cases h) rfl (fun lo hi h => by cases h) (Or.inl (by decide)) d_TrustDeskModel_holds_2 p_TrustDeskModel_1_13 rfl rfl (fun M3 I4 q5 K6 R7 A8 V9 => ?_)
  have z10 := (V9 27 (by decide))
  have K11 : ∀ i : Nat, i < 880 → 0 ≤ ra M3 o0 8 i := (by have e9 := ((sA_f A8 (by decide)) : sA [8] _ _ _) 8 rfl; rw [e9]; exact K1)
  have K12 : sA [6, 7, 8, 28] M0 M3 o0 := K2.trans (sA_f A8 (by decide))
  refine mv_iload_n d_TrustDeskModel_holds_5 rfl rfl ?_
  refine mv_i2l (v := x1.toInt64) d_TrustDeskModel_holds_6 rfl ?_
  refine mv_lconst (v := 0) d_TrustDeskModel_holds_7 (by decide) ?_
  refine mv_ldc2 d_TrustDeskModel_holds_8 k_TrustDeskModel_376 ?_
  refine mv_callS (kc1 := 0) (ks1 := 0) (kc' := 0) (ks' := 0) (As := [.long x1.toInt64, .long 0, .long 36000]) (st9 := [.long 36000, .long 0, .long x1.toInt64]) d_TrustDeskModel_holds_11 lS_TrustDeskModel_169 (mj_enter (by decide) (Nat.le_of_ble_eq_true rfl) ?_) rfl (Nat.le_of_ble_eq_true rfl) (Nat.le_of_ble_eq_true rfl) (Nat.le_of_ble_eq_true rfl) (hst := rfl) (fun _ _ _ h => h)
  refine mv_lload_n d_TrustDeskModel_within_0 rfl rfl ?_
  refine mv_lload_n d_TrustDeskModel_within_1 rfl rfl ?_
  refine mv_lltZ (tgt := 17) (a := x1.toInt) (b := 0) d_TrustDeskModel_within_2 d_TrustDeskModel_within_3 (by decide) (mz_wide _) (by decide) (fun b13 => ?_) (fun b13 => ?_)
  · refine mv_iconst (v := 0) d_TrustDeskModel_within_17 (by decide) ?_
    refine mv_iret d_TrustDeskModel_within_18 rfl (by decide) ?_
    refine mv_if_eq_t (tgt := 38) d_TrustDeskModel_holds_14 (by decide) (by decide) ?_
    refine mv_iconst (v := (-1)) d_TrustDeskModel_holds_38 (by decide) ?_
    exact mv_iret d_TrustDeskModel_holds_39 rfl (by first | rfl | decide) ⟨_, I4, _, rfl, R7, (Or.inl ⟨by decide, by omega⟩)⟩
  · refine mv_lload_n d_TrustDeskModel_within_6 rfl rfl ?_
    refine mv_lload d_TrustDeskModel_within_7 rfl ?_
    refine mv_lgtZ (tgt := 17) (a := x1.toInt) (b := 36000) d_TrustDeskModel_within_9 d_TrustDeskModel_within_10 (by decide) (mz_wide _) (by decide) (fun b14 => ?_) (fun b14 => ?_)
    · refine mv_iconst (v := 0) d_TrustDeskModel_within_17 (by decide) ?_
      refine mv_iret d_TrustDeskModel_within_18 rfl (by decide) ?_
      refine mv_if_eq_t (tgt := 38) d_TrustDeskModel_holds_14 (by decide) (by decide) ?_
      refine mv_iconst (v := (-1)) d_TrustDeskModel_holds_38 (by decide) ?_
      exact mv_iret d_TrustDeskModel_holds_39 rfl (by first | rfl | decide) ⟨_, I4, _, rfl, R7, (Or.inl ⟨by decide, by omega⟩)⟩
    · refine mv_iconst (v := 1) d_TrustDeskModel_within_13 (by decide) ?_
      refine mv_goto (tgt := 18) d_TrustDeskModel_within_14 (by decide) ?_
      refine mv_iret d_TrustDeskModel_within_18 rfl (by decide) ?_
      refine mv_if_eq_f (tgt := 38) d_TrustDeskModel_holds_14 (by decide) (by decide) ?_
      refine mv_iload_n d_TrustDeskModel_holds_17 rfl rfl ?_
      refine mv_i2l (v := x2.toInt64) d_TrustDeskModel_holds_18 rfl ?_
      refine mv_lconst (v := 0) d_TrustDeskModel_holds_19 (by decide) ?_
      refine mv_ldc2 d_TrustDeskModel_holds_20 k_TrustDeskModel_394 ?_
      refine mv_callS (kc1 := 0) (ks1 := 0) (kc' := 0) (ks' := 0) (As := [.long x2.toInt64, .long 0, .long 5]) (st9 := [.long 5, .long 0, .long x2.toInt64]) d_TrustDeskModel_holds_23 lS_TrustDeskModel_169 (mj_enter (by decide) (Nat.le_of_ble_eq_true rfl) ?_) rfl (Nat.le_of_ble_eq_true rfl) (Nat.le_of_ble_eq_true rfl) (Nat.le_of_ble_eq_true rfl) (hst := rfl) (fun _ _ _ h => h)
      refine mv_lload_n d_TrustDeskModel_within_0 rfl rfl ?_
      refine mv_lload_n d_TrustDeskModel_within_1 rfl rfl ?_
      refine mv_lltZ (tgt := 17) (a := x2.toInt) (b := 0) d_TrustDeskModel_within_2 d_TrustDeskModel_within_3 (by decide) (mz_wide _) (by decide) (fun b15 => ?_) (fun b15 => ?_)
      · refine mv_iconst (v := 0) d_TrustDeskModel_within_17 (by decide) ?_
        refine mv_iret d_TrustDeskModel_within_18 rfl (by decide) ?_
        refine mv_if_eq_t (tgt := 38) d_TrustDeskModel_holds_26 (by decide) (by decide) ?_
        refine mv_iconst (v := (-1)) d_TrustDeskModel_holds_38 (by decide) ?_
        exact mv_iret d_TrustDeskModel_holds_39 rfl (by first | rfl | decide) ⟨_, I4, _, rfl, R7, (Or.inl ⟨by decide, by omega⟩)⟩
      · refine mv_lload_n d_TrustDeskModel_within_6 rfl rfl ?_
        refine mv_lload d_TrustDeskModel_within_7 rfl ?_
        refine mv_lgtZ (tgt := 17) (a := x2.toInt) (b := 5) d_TrustDeskModel_within_9 d_TrustDeskModel_within_10 (by decide) (mz_wide _) (by decide) (fun b16 => ?_) (fun b16 => ?_)
        · refine mv_iconst (v := 0) d_TrustDeskModel_within_17 (by decide) ?_
          refine mv_iret d_TrustDeskModel_within_18 rfl (by decide) ?_
          refine mv_if_eq_t (tgt := 38) d_TrustDeskModel_holds_26 (by decide) (by decide) ?_
          refine mv_iconst (v := (-1)) d_TrustDeskModel_holds_38 (by decide) ?_
          exact mv_iret d_TrustDeskModel_holds_39 rfl (by first | rfl | decide) ⟨_, I4, _, rfl, R7, (Or.inl ⟨by decide, by omega⟩)⟩
        · refine mv_iconst (v := 1) d_TrustDeskModel_within_13 (by decide) ?_
          refine mv_goto (tgt := 18) d_TrustDeskModel_within_14 (by decide) ?_
          refine mv_iret d_TrustDeskModel_within_18 rfl (by decide) ?_
          refine mv_if_eq_f (tgt := 38) d_TrustDeskModel_holds_26 (by decide) (by decide) ?_
          refine mv_aload_n d_TrustDeskModel_holds_29 rfl rfl ?_
          refine mv_iload_n d_TrustDeskModel_holds_30 rfl rfl ?_
          refine mv_iload_n d_TrustDeskModel_holds_31 rfl rfl ?_
          obtain ⟨_, b23, -⟩ := I4.1 _ _ h_o0
          refine mv_callV (kc' := 0) (ks' := 0) (As := [.int x1, .int x2]) (st9 := [.int x2, .int x1, .ref o0]) d_TrustDeskModel_holds_32 lV_TrustDeskModel_396 b23 rfl (tc_TrustDeskModel_toldOn_a (d := d) (x9 := x9) (o0 := o0) (x1 := x1) (x2 := x2) h_o0 R7 K11 (by have := R7.1 27 _ _ rfl; omega) I4.start) rfl (Nat.le_of_ble_eq_true rfl) (Nat.le_of_ble_eq_true rfl) (Nat.le_of_ble_eq_true rfl) (hst := rfl) (fun b17r M18 n19 b17 => ?_)
          obtain ⟨T20, J21, v24, rfl, R25, f26, f27⟩ := b17
          have I22 := I4.call J21 (tm_sub (by decide)) (Or.inl rfl)
          have t28 := J21.up h_o0
          have z29 := (rv_c I4 J21 (I4.up h_o0) (k := 27) rfl).trans z10
          have K30 : ∀ i : Nat, i < 880 → 0 ≤ ra M18 o0 8 i := (by have e9 := ((sA_c I4 J21 (I4.up h_o0) (by decide +kernel)) : sA [8] _ _ _) 8 rfl; rw [e9]; exact K11)
          have K31 : sA [6, 7, 8, 28] M0 M18 o0 := K12.trans (sA_c I4 J21 (I4.up h_o0) (by decide +kernel))
          have h32 := f27.trans (p_tr_same K12 z10)
          clear z10
          have q33 := J21.keep h_o0 (by decide) q5
          refine mv_goto (tgt := 39) d_TrustDeskModel_holds_35 (by decide) ?_
          exact mv_iret d_TrustDeskModel_holds_39 rfl (by first | rfl | decide) ⟨_, I22, _, rfl, R25, (Or.inr ⟨by omega, h32⟩)⟩
