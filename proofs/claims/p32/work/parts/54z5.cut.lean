def w_Reader_sortOf_x : List Nat := []
set_option maxHeartbeats 100000000 in theorem tc_Reader_sortOf_x {g : mj_G} {l : Launch} {d : Nat} {T0 : tm_H} {M0 : mj_M} {n0 x9 : Nat} {o0 : Nat} {x1 : Int32} (h_o0 : T0 o0 = some (0, 9, 0)) {pb : Nat → Int} {pn : Nat} (yB : qB M0 o0 pb pn) (I0 : tm_I tm_FT (tm_in w_Reader_sortOf_x) x9 T0 M0 n0 T0 M0 n0) : mj_Met g l kY_Reader_sortOf (d + 1) [.ref o0, .int x1] M0 n0 0 0 (tm_Q tm_FT (tm_in w_Reader_sortOf_x) x9 T0 M0 n0 (fun r _ M => ∃ v : Int32, r = some (.int v) ∧ (0 ≤ x1.toInt → x1.toInt < (pn : Int) → v.toInt = p_so (pb (x1.toInt).toNat)))) := by
  refine mj_enter (by decide) (Nat.le_of_ble_eq_true rfl) ?_
  have hB : ∀ {T : tm_H} {M : mj_M} {n : Nat}, tm_I tm_FT (tm_in w_Reader_sortOf_x) x9 T0 M0 n0 T M n → qB M o0 pb pn := fun I => yB.keep I0.1 I h_o0 (by decide +kernel) (by decide +kernel) (by decide +kernel)
  have := yB.1
  have := yB.2.1
  refine mv_aload_n d_Reader_sortOf_0 rfl rfl ?_
  refine mv_iload_n d_Reader_sortOf_1 rfl rfl ?_
  obtain ⟨_, b1, -⟩ := I0.1 _ _ h_o0
  refine mv_callV (kc1 := 0) (ks1 := 0) (kc' := 0) (ks' := 0) (As := [.int x1]) (st9 := [.int x1, .ref o0]) d_Reader_sortOf_2 lV_Reader_261 b1 rfl (mj_enter (by decide) (Nat.le_of_ble_eq_true rfl) ?_) rfl (Nat.le_of_ble_eq_true rfl) (Nat.le_of_ble_eq_true rfl) (Nat.le_of_ble_eq_true rfl) (hst := rfl) (fun _ _ _ h => h)
  refine mv_iload_n d_Reader_byteAt_0 rfl rfl ?_
  have := mz_hi x1
  refine mv_if_ltZ (tgt := 20) (a := x1.toInt) d_Reader_byteAt_1 (by decide) rfl (fun b2 => ?_) (fun b2 => ?_)
  · refine mv_iconst (v := 0) d_Reader_byteAt_20 (by decide) ?_
    refine mv_iret d_Reader_byteAt_21 rfl (by first | rfl | decide) ?_
    refine mv_istore_n (lv' := [(2, .int 0), (0, .ref o0), (1, .int x1)]) d_Reader_sortOf_5 rfl (by decide) rfl ?_
    refine mv_iload_n d_Reader_sortOf_6 rfl rfl ?_
    refine mv_bipush (v := 32) d_Reader_sortOf_7 (by decide) ?_
    refine mv_icmp_eq_f (tgt := 18) d_Reader_sortOf_9 (by decide) (by decide) ?_
    refine mv_iload_n d_Reader_sortOf_12 rfl rfl ?_
    refine mv_bipush (v := 10) d_Reader_sortOf_13 (by decide) ?_
    refine mv_icmp_ne_t (tgt := 20) d_Reader_sortOf_15 (by decide) (by decide) ?_
    refine mv_iload_n d_Reader_sortOf_20 rfl rfl ?_
    refine mv_bipush (v := 97) d_Reader_sortOf_21 (by decide) ?_
    refine mv_icmp_lt_t (tgt := 34) d_Reader_sortOf_23 (by decide) (by decide) ?_
    refine mv_iload_n d_Reader_sortOf_34 rfl rfl ?_
    refine mv_bipush (v := 48) d_Reader_sortOf_35 (by decide) ?_
    refine mv_icmp_lt_t (tgt := 50) d_Reader_sortOf_37 (by decide) (by decide) ?_
    refine mv_iconst (v := 3) d_Reader_sortOf_50 (by decide) ?_
    exact mv_iret d_Reader_sortOf_51 rfl (by first | rfl | decide) ⟨_, I0, _, rfl, (fun h8 h9 => by have e9_ : (3 : Int32).toInt = 3 := (by decide); have := p_so_d (pb (x1.toInt).toNat); omega)⟩
  · refine mv_iload_n d_Reader_byteAt_4 rfl rfl ?_
    refine mv_sipush (v := 400) d_Reader_byteAt_5 (by decide) ?_
    have := mz_hi x1
    refine mv_icmp_geZ (tgt := 20) (a := x1.toInt) (b := 400) d_Reader_byteAt_8 (by decide) rfl (by decide) (fun b3 => ?_) (fun b3 => ?_)
    · refine mv_iconst (v := 0) d_Reader_byteAt_20 (by decide) ?_
      refine mv_iret d_Reader_byteAt_21 rfl (by first | rfl | decide) ?_
      refine mv_istore_n (lv' := [(2, .int 0), (0, .ref o0), (1, .int x1)]) d_Reader_sortOf_5 rfl (by decide) rfl ?_
      refine mv_iload_n d_Reader_sortOf_6 rfl rfl ?_
      refine mv_bipush (v := 32) d_Reader_sortOf_7 (by decide) ?_
      refine mv_icmp_eq_f (tgt := 18) d_Reader_sortOf_9 (by decide) (by decide) ?_
      refine mv_iload_n d_Reader_sortOf_12 rfl rfl ?_
      refine mv_bipush (v := 10) d_Reader_sortOf_13 (by decide) ?_
      refine mv_icmp_ne_t (tgt := 20) d_Reader_sortOf_15 (by decide) (by decide) ?_
      refine mv_iload_n d_Reader_sortOf_20 rfl rfl ?_
      refine mv_bipush (v := 97) d_Reader_sortOf_21 (by decide) ?_
      refine mv_icmp_lt_t (tgt := 34) d_Reader_sortOf_23 (by decide) (by decide) ?_
      refine mv_iload_n d_Reader_sortOf_34 rfl rfl ?_
      refine mv_bipush (v := 48) d_Reader_sortOf_35 (by decide) ?_
      refine mv_icmp_lt_t (tgt := 50) d_Reader_sortOf_37 (by decide) (by decide) ?_
      refine mv_iconst (v := 3) d_Reader_sortOf_50 (by decide) ?_
      exact mv_iret d_Reader_sortOf_51 rfl (by first | rfl | decide) ⟨_, I0, _, rfl, (fun h8 h9 => by have e9_ : (3 : Int32).toInt = 3 := (by decide); have := p_so_d (pb (x1.toInt).toNat); omega)⟩
    · refine mv_aload_n d_Reader_byteAt_11 rfl rfl ?_
      obtain ⟨a5, q4, t_a5⟩ := tm_atR I0 h_o0 (k := 3) rfl
      refine tr_getK q4 d_Reader_byteAt_12 f_Reader_15_9 ?_
      refine mv_iload_n d_Reader_byteAt_15 rfl rfl ?_
      refine tr_iald9 (o := o0) (k := 3) I0 q4 t_a5 (by decide) d_Reader_byteAt_16 (vp_in_iff.mpr (by omega)) (fun v6 e7 => ?_)
      have : 0 ≤ x1.toInt → x1.toInt < (pn : Int) → v6.toInt = pb (x1.toInt).toNat := fun h8 h9 => by rw [e7, show x1.toNatClampNeg = (x1.toInt).toNat from by have := mz_nat9 (i := x1) h8; omega]; exact (hB I0).2.2.2 _ (by omega)
      refine mv_goto (tgt := 21) d_Reader_byteAt_17 (by decide) ?_
      refine mv_iret d_Reader_byteAt_21 rfl (by first | rfl | decide) ?_
      refine mv_istore_n (lv' := [(2, .int v6), (0, .ref o0), (1, .int x1)]) d_Reader_sortOf_5 rfl (by decide) rfl ?_
      refine mv_iload_n d_Reader_sortOf_6 rfl rfl ?_
      refine mv_bipush (v := 32) d_Reader_sortOf_7 (by decide) ?_
      have := mz_hi v6
      refine mv_icmp_eqZ (tgt := 18) (a := v6.toInt) (b := 32) d_Reader_sortOf_9 (by decide) rfl (by decide) (fun b8 => ?_) (fun b8 => ?_)
      · refine mv_iconst (v := 4) d_Reader_sortOf_18 (by decide) ?_
        exact mv_iret d_Reader_sortOf_19 rfl (by first | rfl | decide) ⟨_, I0, _, rfl, (fun h8 h9 => by have e9_ : (4 : Int32).toInt = 4 := (by decide); have := p_so_d (pb (x1.toInt).toNat); omega)⟩
      · refine mv_iload_n d_Reader_sortOf_12 rfl rfl ?_
        refine mv_bipush (v := 10) d_Reader_sortOf_13 (by decide) ?_
        have := mz_hi v6
        refine mv_icmp_neZ (tgt := 20) (a := v6.toInt) (b := 10) d_Reader_sortOf_15 (by decide) rfl (by decide) (fun b9 => ?_) (fun b9 => ?_)
        · refine mv_iload_n d_Reader_sortOf_20 rfl rfl ?_
          refine mv_bipush (v := 97) d_Reader_sortOf_21 (by decide) ?_
          have := mz_hi v6
          refine mv_icmp_ltZ (tgt := 34) (a := v6.toInt) (b := 97) d_Reader_sortOf_23 (by decide) rfl (by decide) (fun b10 => ?_) (fun b10 => ?_)
          · refine mv_iload_n d_Reader_sortOf_34 rfl rfl ?_
            refine mv_bipush (v := 48) d_Reader_sortOf_35 (by decide) ?_
            have := mz_hi v6
            refine mv_icmp_ltZ (tgt := 50) (a := v6.toInt) (b := 48) d_Reader_sortOf_37 (by decide) rfl (by decide) (fun b11 => ?_) (fun b11 => ?_)
            · refine mv_iconst (v := 3) d_Reader_sortOf_50 (by decide) ?_
              exact mv_iret d_Reader_sortOf_51 rfl (by first | rfl | decide) ⟨_, I0, _, rfl, (fun h8 h9 => by have e9_ : (3 : Int32).toInt = 3 := (by decide); have := p_so_d (pb (x1.toInt).toNat); omega)⟩
            · refine mv_iload_n d_Reader_sortOf_40 rfl rfl ?_
              refine mv_bipush (v := 57) d_Reader_sortOf_41 (by decide) ?_
              have := mz_hi v6
              refine mv_icmp_gtZ (tgt := 50) (a := v6.toInt) (b := 57) d_Reader_sortOf_43 (by decide) rfl (by decide) (fun b12 => ?_) (fun b12 => ?_)
              · refine mv_iconst (v := 3) d_Reader_sortOf_50 (by decide) ?_
                exact mv_iret d_Reader_sortOf_51 rfl (by first | rfl | decide) ⟨_, I0, _, rfl, (fun h8 h9 => by have e9_ : (3 : Int32).toInt = 3 := (by decide); have := p_so_d (pb (x1.toInt).toNat); omega)⟩
              · refine mv_iconst (v := 2) d_Reader_sortOf_46 (by decide) ?_
                refine mv_goto (tgt := 51) d_Reader_sortOf_47 (by decide) ?_
                exact mv_iret d_Reader_sortOf_51 rfl (by first | rfl | decide) ⟨_, I0, _, rfl, (fun h8 h9 => by have e9_ : (2 : Int32).toInt = 2 := (by decide); have := p_so_d (pb (x1.toInt).toNat); omega)⟩
          · refine mv_iload_n d_Reader_sortOf_26 rfl rfl ?_
            refine mv_bipush (v := 122) d_Reader_sortOf_27 (by decide) ?_
            have := mz_hi v6
            refine mv_icmp_gtZ (tgt := 34) (a := v6.toInt) (b := 122) d_Reader_sortOf_29 (by decide) rfl (by decide) (fun b13 => ?_) (fun b13 => ?_)
            · refine mv_iload_n d_Reader_sortOf_34 rfl rfl ?_
              refine mv_bipush (v := 48) d_Reader_sortOf_35 (by decide) ?_
              have := mz_hi v6
              refine mv_icmp_ltZ (tgt := 50) (a := v6.toInt) (b := 48) d_Reader_sortOf_37 (by decide) rfl (by decide) (fun b14 => absurd b14 (by omega)) (fun b14 => ?_)
              refine mv_iload_n d_Reader_sortOf_40 rfl rfl ?_
              refine mv_bipush (v := 57) d_Reader_sortOf_41 (by decide) ?_
              have := mz_hi v6
              refine mv_icmp_gtZ (tgt := 50) (a := v6.toInt) (b := 57) d_Reader_sortOf_43 (by decide) rfl (by decide) (fun b15 => ?_) (fun b15 => absurd b15 (by omega))
              refine mv_iconst (v := 3) d_Reader_sortOf_50 (by decide) ?_
              exact mv_iret d_Reader_sortOf_51 rfl (by first | rfl | decide) ⟨_, I0, _, rfl, (fun h8 h9 => by have e9_ : (3 : Int32).toInt = 3 := (by decide); have := p_so_d (pb (x1.toInt).toNat); omega)⟩
            · refine mv_iconst (v := 1) d_Reader_sortOf_32 (by decide) ?_
              exact mv_iret d_Reader_sortOf_33 rfl (by first | rfl | decide) ⟨_, I0, _, rfl, (fun h8 h9 => by have e9_ : (1 : Int32).toInt = 1 := (by decide); have := p_so_d (pb (x1.toInt).toNat); omega)⟩
        · refine mv_iconst (v := 4) d_Reader_sortOf_18 (by decide) ?_
          exact mv_iret d_Reader_sortOf_19 rfl (by first | rfl | decide) ⟨_, I0, _, rfl, (fun h8 h9 => by have e9_ : (4 : Int32).toInt = 4 := (by decide); have := p_so_d (pb (x1.toInt).toNat); omega)⟩
def w_Reader_matches_s1_10_x : List Nat := []
set_option maxHeartbeats 100000000 in theorem tc_Reader_matches_s1_10_x {g : mj_G} {l : Launch} {d : Nat} {T0 : tm_H} {M0 : mj_M} {n0 x9 : Nat} {o0 : Nat} {x2 : Int32} {x3 : Int32} {x4 : Int32} (h_o0 : T0 o0 = some (0, 9, 0)) {pb : Nat → Int} {pn : Nat} (yB : qB M0 o0 pb pn) (yh : 0 ≤ x2.toInt ∧ x2.toInt ≤ x3.toInt ∧ x3.toInt ≤ 71) (yh2 : 0 ≤ x4.toInt ∧ x4.toInt + (x3.toInt - x2.toInt) ≤ (pn : Int)) (I0 : tm_I tm_FT (tm_in w_Reader_matches_s1_10_x) x9 T0 M0 n0 T0 M0 n0) : mj_Met g l kY_Reader_matches (d + 4) [.ref o0, .ref 10, .int x2, .int x3, .int x4] M0 n0 0 0 (tm_Q tm_FT (tm_in w_Reader_matches_s1_10_x) x9 T0 M0 n0 (fun r _ M => ∃ v : Int32, r = some (.int v) ∧ 0 ≤ v.toInt ∧ v.toInt ≤ 1 ∧ (v.toInt = if p_cm pb (p_C 0) (x3.toInt - x2.toInt).toNat (x2.toInt).toNat (x4.toInt + x2.toInt - x2.toInt).toNat = true then 1 else 0))) := by
  refine mj_enter (by decide) (Nat.le_of_ble_eq_true rfl) ?_
  have hB : ∀ {T : tm_H} {M : mj_M} {n : Nat}, tm_I tm_FT (tm_in w_Reader_matches_s1_10_x) x9 T0 M0 n0 T M n → qB M o0 pb pn := fun I => yB.keep I0.1 I h_o0 (by decide +kernel) (by decide +kernel) (by decide +kernel)
  have := yB.1
  have := yB.2.1
  refine mv_iload_n d_Reader_matches_0 rfl rfl ?_
  refine mv_istore (lv' := [(5, .int x2), (0, .ref o0), (1, .ref 10), (2, .int x2), (3, .int x3), (4, .int x4)]) d_Reader_matches_1 (by decide) rfl ?_
  have L3_1 : ∀ (k : Nat) (i5_1 : Int32) (T_1 : tm_H) (M_1 : mj_M) (n_1 : Nat), tm_I tm_FT (tm_in w_Reader_matches_s1_10_x) x9 T0 M0 n0 T_1 M_1 n_1 → T_1 o0 = some (0, 9, 0) → x2.toInt ≤ i5_1.toInt → i5_1.toInt ≤ x3.toInt → p_cm pb (p_C 0) (x3.toInt - i5_1.toInt).toNat (i5_1.toInt).toNat (x4.toInt + i5_1.toInt - x2.toInt).toNat = p_cm pb (p_C 0) (x3.toInt - x2.toInt).toNat (x2.toInt).toNat (x4.toInt + x2.toInt - x2.toInt).toNat → 2147483647 - i5_1.toInt < (k : Int) → mj_V g l kY_Reader_matches (d + 4) 3 [(5, .int i5_1), (0, .ref o0), (1, .ref 10), (2, .int x2), (3, .int x3), (4, .int x4)] [] M_1 n_1 0 0 (tm_Q tm_FT (tm_in w_Reader_matches_s1_10_x) x9 T0 M0 n0 (fun r _ M => ∃ v : Int32, r = some (.int v) ∧ 0 ≤ v.toInt ∧ v.toInt ≤ 1 ∧ (v.toInt = if p_cm pb (p_C 0) (x3.toInt - x2.toInt).toNat (x2.toInt).toNat (x4.toInt + x2.toInt - x2.toInt).toNat = true then 1 else 0))) := by
    intro k1
    induction k1 with
    | zero =>
      intro i5_1 T_1 M_1 n_1 I_1 h_q0_1 iv0_1 iv1_1 iv2_1 hk1
      have := mz_hi i5_1
      omega
    | succ k1 ih1 =>
      intro i5_1 T_1 M_1 n_1 I_1 h_q0_1 iv0_1 iv1_1 iv2_1 hk1
      refine mv_iload d_Reader_matches_3 rfl ?_
      have := mz_hi i5_1
      refine mv_if_ltZ (tgt := 69) (a := i5_1.toInt) d_Reader_matches_5 (by decide) rfl (fun b2 => ?_) (fun b2 => ?_)
      · refine mv_iconst (v := 1) d_Reader_matches_69 (by decide) ?_
        exact mv_iret d_Reader_matches_70 rfl (by decide) ⟨_, I_1, _, rfl, by decide, by decide, (by first | (have e9 : true = p_cm pb (p_C 0) (x3.toInt - x2.toInt).toNat (x2.toInt).toNat (x4.toInt + x2.toInt - x2.toInt).toNat := (by rw [← iv2_1, show (x3.toInt - i5_1.toInt).toNat = 0 from by omega]; rfl); exact (show (1 : Int32).toInt = 1 from by decide).trans (if_pos e9.symm).symm) | (exfalso; omega))⟩
      · refine mv_iload d_Reader_matches_8 rfl ?_
        refine mv_iload_n d_Reader_matches_10 rfl rfl ?_
        have := mz_hi i5_1
        have := mz_hi x3
        refine mv_icmp_geZ (tgt := 69) (a := i5_1.toInt) (b := x3.toInt) d_Reader_matches_11 (by decide) rfl rfl (fun b3 => ?_) (fun b3 => ?_)
        · refine mv_iconst (v := 1) d_Reader_matches_69 (by decide) ?_
          exact mv_iret d_Reader_matches_70 rfl (by decide) ⟨_, I_1, _, rfl, by decide, by decide, (by first | (have e9 : true = p_cm pb (p_C 0) (x3.toInt - x2.toInt).toNat (x2.toInt).toNat (x4.toInt + x2.toInt - x2.toInt).toNat := (by rw [← iv2_1, show (x3.toInt - i5_1.toInt).toNat = 0 from by omega]; rfl); exact (show (1 : Int32).toInt = 1 from by decide).trans (if_pos e9.symm).symm) | (exfalso; omega))⟩
        · refine mv_iload d_Reader_matches_14 rfl ?_
          refine mv_aload_n d_Reader_matches_16 rfl rfl ?_
          refine mv_slenK (i := 0) (v := 71) d_Reader_matches_17 lV_Reader_272 (by decide) rfl (by decide) (Nat.le_of_ble_eq_true rfl) ?_
          have := mz_hi i5_1
          refine mv_icmp_geZ (tgt := 69) (a := i5_1.toInt) (b := 71) d_Reader_matches_20 (by decide) rfl (by decide) (fun b4 => ?_) (fun b4 => ?_)
          · refine mv_iconst (v := 1) d_Reader_matches_69 (by decide) ?_
            exact mv_iret d_Reader_matches_70 rfl (by decide) ⟨_, I_1, _, rfl, by decide, by decide, (by first | (have e9 : true = p_cm pb (p_C 0) (x3.toInt - x2.toInt).toNat (x2.toInt).toNat (x4.toInt + x2.toInt - x2.toInt).toNat := (by rw [← iv2_1, show (x3.toInt - i5_1.toInt).toNat = 0 from by omega]; rfl); exact (show (1 : Int32).toInt = 1 from by decide).trans (if_pos e9.symm).symm) | (exfalso; omega))⟩
          · refine mv_iload d_Reader_matches_23 rfl ?_
            refine mv_iload d_Reader_matches_25 rfl ?_
            refine mv_iadd d_Reader_matches_27 ?_
            refine mv_iload_n d_Reader_matches_28 rfl rfl ?_
            have : (((x4 + i5_1) - x2) : Int32).toInt = x4.toInt + i5_1.toInt - x2.toInt := mz_sub2 (mz_add2 rfl rfl (by omega) (by omega)) rfl (by omega) (by omega)
            refine mv_isub d_Reader_matches_29 ?_
            refine mv_istore (lv' := [(6, .int ((x4 + i5_1) - x2)), (5, .int i5_1), (0, .ref o0), (1, .ref 10), (2, .int x2), (3, .int x3), (4, .int x4)]) d_Reader_matches_30 (by decide) rfl ?_
            refine mv_iload d_Reader_matches_32 rfl ?_
            have := mz_hi ((x4 + i5_1) - x2)
            refine mv_if_ltZ (tgt := 61) (a := ((x4 + i5_1) - x2).toInt) d_Reader_matches_34 (by decide) rfl (fun b5 => ?_) (fun b5 => ?_)
            · refine mv_iconst (v := 0) d_Reader_matches_61 (by decide) ?_
              exact mv_iret d_Reader_matches_62 rfl (by decide) ⟨_, I_1, _, rfl, by decide, by decide, (by first | (have e9 : false = p_cm pb (p_C 0) (x3.toInt - x2.toInt).toNat (x2.toInt).toNat (x4.toInt + x2.toInt - x2.toInt).toNat := (by rw [← iv2_1, show (x3.toInt - i5_1.toInt).toNat = (x3.toInt - (i5_1.toInt + 1)).toNat + 1 from by omega, p_cm_no (by rw [show (x4.toInt + i5_1.toInt - x2.toInt).toNat = (((x4 + i5_1) - x2).toInt).toNat from by omega]; omega)]); exact (show (0 : Int32).toInt = 0 from by decide).trans (if_neg (by rw [← e9]; decide)).symm) | (exfalso; omega))⟩
            · refine mv_iload d_Reader_matches_37 rfl ?_
              refine mv_sipush (v := 400) d_Reader_matches_39 (by decide) ?_
              have := mz_hi ((x4 + i5_1) - x2)
              refine mv_icmp_geZ (tgt := 61) (a := ((x4 + i5_1) - x2).toInt) (b := 400) d_Reader_matches_42 (by decide) rfl (by decide) (fun b6 => ?_) (fun b6 => ?_)
              · refine mv_iconst (v := 0) d_Reader_matches_61 (by decide) ?_
                exact mv_iret d_Reader_matches_62 rfl (by decide) ⟨_, I_1, _, rfl, by decide, by decide, (by first | (have e9 : false = p_cm pb (p_C 0) (x3.toInt - x2.toInt).toNat (x2.toInt).toNat (x4.toInt + x2.toInt - x2.toInt).toNat := (by rw [← iv2_1, show (x3.toInt - i5_1.toInt).toNat = (x3.toInt - (i5_1.toInt + 1)).toNat + 1 from by omega, p_cm_no (by rw [show (x4.toInt + i5_1.toInt - x2.toInt).toNat = (((x4 + i5_1) - x2).toInt).toNat from by omega]; omega)]); exact (show (0 : Int32).toInt = 0 from by decide).trans (if_neg (by rw [← e9]; decide)).symm) | (exfalso; omega))⟩
              · refine mv_aload_n d_Reader_matches_45 rfl rfl ?_
                refine mv_iload d_Reader_matches_46 rfl ?_
                obtain ⟨v7, e8⟩ : ∃ v9 : Int32, mj_ch 0 i5_1.toNatClampNeg = v9 := ⟨_, rfl⟩
                refine mv_schC (i := 0) (v := v7) d_Reader_matches_48 lV_Reader_277 (by decide) rfl (by omega) (by show _ < ((71 : Nat) : Int); omega) (Nat.le_of_ble_eq_true rfl) e8 ?_
                have : v7.toInt = p_C 0 (i5_1.toInt).toNat := by rw [← e8]; show (mj_ch 0 _).toInt = (mj_ch 0 _).toInt; rw [show i5_1.toNatClampNeg = (i5_1.toInt).toNat from by have := mz_nat9 (i := i5_1) (by omega); omega]
                refine mv_aload_n d_Reader_matches_51 rfl rfl ?_
                obtain ⟨a10, q9, t_a10⟩ := tm_atR I_1 h_q0_1 (k := 3) rfl
                refine tr_getK q9 d_Reader_matches_52 f_Reader_15_9 ?_
                refine mv_iload d_Reader_matches_55 rfl ?_
                refine tr_iald9 (o := o0) (k := 3) I_1 q9 t_a10 (by decide) d_Reader_matches_57 (vp_in_iff.mpr (by omega)) (fun v11 e12 => ?_)
                have : 0 ≤ ((x4 + i5_1) - x2).toInt → ((x4 + i5_1) - x2).toInt < (pn : Int) → v11.toInt = pb (((x4 + i5_1) - x2).toInt).toNat := fun h8 h9 => by rw [e12, show ((x4 + i5_1) - x2).toNatClampNeg = (((x4 + i5_1) - x2).toInt).toNat from by have := mz_nat9 (i := ((x4 + i5_1) - x2)) h8; omega]; exact (hB I_1).2.2.2 _ (by omega)
                have := mz_hi v7
                have := mz_hi v11
                refine mv_icmp_eqZ (tgt := 63) (a := v7.toInt) (b := v11.toInt) d_Reader_matches_58 (by decide) rfl rfl (fun b13 => ?_) (fun b13 => ?_)
                · refine mv_iinc (v := (i5_1 + 1)) (lv' := [(5, .int (i5_1 + 1)), (6, .int ((x4 + i5_1) - x2)), (0, .ref o0), (1, .ref 10), (2, .int x2), (3, .int x3), (4, .int x4)]) d_Reader_matches_63 rfl rfl (by decide) rfl ?_
                  refine mv_goto (tgt := 3) d_Reader_matches_66 (by decide) ?_
                  have : (i5_1 + 1 : Int32).toInt = i5_1.toInt + 1 := mz_addn 1 1 (by decide) (by omega) (by omega)
                  refine mv_locals (lv' := [(5, .int (i5_1 + 1)), (0, .ref o0), (1, .ref 10), (2, .int x2), (3, .int x3), (4, .int x4)]) (by intro q hq; simp only [List.mem_cons, List.not_mem_nil, or_false] at hq; rcases hq with rfl | rfl | rfl | rfl | rfl | rfl <;> rfl) ?_
                  have b14 : (i5_1 + 1).toInt = i5_1.toInt + 1 := mz_addn 1 1 (by decide) (by have := mz_lo i5_1; omega) (by have := mz_hi i5_1; omega)
                  exact (ih1 (i5_1 + 1) T_1 M_1 n_1 I_1 h_q0_1 (by first | omega | decide) (by first | omega | decide) (by have e9 := iv2_1; rw [show (x3.toInt - i5_1.toInt).toNat = (x3.toInt - (i5_1 + 1).toInt).toNat + 1 from by omega, p_cm_on (by rw [show (x4.toInt + i5_1.toInt - x2.toInt).toNat = (((x4 + i5_1) - x2).toInt).toNat from by omega]; omega), show (i5_1.toInt).toNat + 1 = ((i5_1 + 1).toInt).toNat from by omega, show (x4.toInt + i5_1.toInt - x2.toInt).toNat + 1 = (x4.toInt + (i5_1 + 1).toInt - x2.toInt).toNat from by omega] at e9; exact e9) (by omega))
                · refine mv_iconst (v := 0) d_Reader_matches_61 (by decide) ?_
                  exact mv_iret d_Reader_matches_62 rfl (by decide) ⟨_, I_1, _, rfl, by decide, by decide, (by first | (have e9 : false = p_cm pb (p_C 0) (x3.toInt - x2.toInt).toNat (x2.toInt).toNat (x4.toInt + x2.toInt - x2.toInt).toNat := (by rw [← iv2_1, show (x3.toInt - i5_1.toInt).toNat = (x3.toInt - (i5_1.toInt + 1)).toNat + 1 from by omega, p_cm_no (by rw [show (x4.toInt + i5_1.toInt - x2.toInt).toNat = (((x4 + i5_1) - x2).toInt).toNat from by omega]; omega)]); exact (show (0 : Int32).toInt = 0 from by decide).trans (if_neg (by rw [← e9]; decide)).symm) | (exfalso; omega))⟩
  exact mv_less (Nat.zero_le _) (Nat.zero_le _) (L3_1 4294967296 x2 T0 M0 n0 I0 h_o0 (by first | omega | decide) (by first | omega | decide) rfl (by have := mz_lo x2; omega))
def w_Reader_indexIn_s1_10_x : List Nat := []
set_option maxHeartbeats 100000000 in theorem tc_Reader_indexIn_s1_10_x {g : mj_G} {l : Launch} {d : Nat} {T0 : tm_H} {M0 : mj_M} {n0 x9 : Nat} {o0 : Nat} {x2 : Int32} {x3 : Int32} (h_o0 : T0 o0 = some (0, 9, 0)) {pb : Nat → Int} {pn : Nat} (yB : qB M0 o0 pb pn) (yh : 0 ≤ x2.toInt ∧ x2.toInt ≤ x3.toInt ∧ x3.toInt ≤ (pn : Int)) (I0 : tm_I tm_FT (tm_in w_Reader_indexIn_s1_10_x) x9 T0 M0 n0 T0 M0 n0) : mj_Met g l kY_Reader_indexIn (d + 5) [.ref o0, .ref 10, .int x2, .int x3] M0 n0 0 0 (tm_Q tm_FT (tm_in w_Reader_indexIn_s1_10_x) x9 T0 M0 n0 (fun r _ M => ∃ v : Int32, r = some (.int v) ∧ (v.toInt = p_lx pb (p_C 0) 71 x2.toInt.toNat x3.toInt.toNat 72 0 0 0))) := by
  refine mj_enter (by decide) (Nat.le_of_ble_eq_true rfl) ?_
  have hB : ∀ {T : tm_H} {M : mj_M} {n : Nat}, tm_I tm_FT (tm_in w_Reader_indexIn_s1_10_x) x9 T0 M0 n0 T M n → qB M o0 pb pn := fun I => yB.keep I0.1 I h_o0 (by decide +kernel) (by decide +kernel) (by decide +kernel)
  have := yB.1
  have := yB.2.1
  refine mv_iconst (v := 0) d_Reader_indexIn_0 (by decide) ?_
  refine mv_istore (lv' := [(4, .int 0), (0, .ref o0), (1, .ref 10), (2, .int x2), (3, .int x3)]) d_Reader_indexIn_1 (by decide) rfl ?_
  refine mv_iconst (v := 0) d_Reader_indexIn_3 (by decide) ?_
  refine mv_istore (lv' := [(5, .int 0), (4, .int 0), (0, .ref o0), (1, .ref 10), (2, .int x2), (3, .int x3)]) d_Reader_indexIn_4 (by decide) rfl ?_
  refine mv_iconst (v := 0) d_Reader_indexIn_6 (by decide) ?_
  refine mv_istore (lv' := [(6, .int 0), (5, .int 0), (4, .int 0), (0, .ref o0), (1, .ref 10), (2, .int x2), (3, .int x3)]) d_Reader_indexIn_7 (by decide) rfl ?_
  have L9_1 : ∀ (k : Nat) (i6_1 : Int32) (i5_1 : Int32) (i4_1 : Int32) (T_1 : tm_H) (M_1 : mj_M) (n_1 : Nat), tm_I tm_FT (tm_in w_Reader_indexIn_s1_10_x) x9 T0 M0 n0 T_1 M_1 n_1 → T_1 o0 = some (0, 9, 0) → 0 ≤ i6_1.toInt → 0 ≤ i4_1.toInt → i4_1.toInt ≤ i6_1.toInt → 0 ≤ i5_1.toInt → i5_1.toInt ≤ i6_1.toInt → i6_1.toInt ≤ 72 → p_lx pb (p_C 0) 71 x2.toInt.toNat x3.toInt.toNat (72 - i6_1.toInt).toNat (i6_1.toInt).toNat (i5_1.toInt).toNat i4_1.toInt = p_lx pb (p_C 0) 71 x2.toInt.toNat x3.toInt.toNat 72 0 0 0 → 2147483647 - i6_1.toInt < (k : Int) → mj_V g l kY_Reader_indexIn (d + 5) 9 [(6, .int i6_1), (5, .int i5_1), (4, .int i4_1), (0, .ref o0), (1, .ref 10), (2, .int x2), (3, .int x3)] [] M_1 n_1 0 0 (tm_Q tm_FT (tm_in w_Reader_indexIn_s1_10_x) x9 T0 M0 n0 (fun r _ M => ∃ v : Int32, r = some (.int v) ∧ (v.toInt = p_lx pb (p_C 0) 71 x2.toInt.toNat x3.toInt.toNat 72 0 0 0))) := by
    intro k1
    induction k1 with
    | zero =>
      intro i6_1 i5_1 i4_1 T_1 M_1 n_1 I_1 h_q0_1 iv0_1 iv1_1 iv2_1 iv3_1 iv4_1 iv5_1 iv6_1 hk1
      have := mz_hi i6_1
      omega
    | succ k1 ih1 =>
      intro i6_1 i5_1 i4_1 T_1 M_1 n_1 I_1 h_q0_1 iv0_1 iv1_1 iv2_1 iv3_1 iv4_1 iv5_1 iv6_1 hk1
      refine mv_iload d_Reader_indexIn_9 rfl ?_
      refine mv_aload_n d_Reader_indexIn_11 rfl rfl ?_
      refine mv_slenK (i := 0) (v := 71) d_Reader_indexIn_12 lV_Reader_272 (by decide) rfl (by decide) (Nat.le_of_ble_eq_true rfl) ?_
      have := mz_hi i6_1
      refine mv_icmp_gtZ (tgt := 80) (a := i6_1.toInt) (b := 71) d_Reader_indexIn_15 (by decide) rfl (by decide) (fun b2 => ?_) (fun b2 => ?_)
      · refine mv_iconst (v := (-1)) d_Reader_indexIn_80 (by decide) ?_
        exact mv_iret d_Reader_indexIn_81 rfl (by first | rfl | decide) ⟨_, I_1, _, rfl, (by have e9 := iv6_1; rw [show (72 - i6_1.toInt).toNat = 0 from by omega] at e9; rw [← e9]; rfl)⟩
      · refine mv_iload d_Reader_indexIn_18 rfl ?_
        refine mv_aload_n d_Reader_indexIn_20 rfl rfl ?_
        refine mv_slenK (i := 0) (v := 71) d_Reader_indexIn_21 lV_Reader_272 (by decide) rfl (by decide) (Nat.le_of_ble_eq_true rfl) ?_
        have := mz_hi i6_1
        refine mv_icmp_eqZ (tgt := 38) (a := i6_1.toInt) (b := 71) d_Reader_indexIn_24 (by decide) rfl (by decide) (fun b3 => ?_) (fun b3 => ?_)
        · refine mv_iload d_Reader_indexIn_38 rfl ?_
          refine mv_iload d_Reader_indexIn_40 rfl ?_
          refine mv_isub d_Reader_indexIn_42 ?_
          refine mv_iload_n d_Reader_indexIn_43 rfl rfl ?_
          refine mv_iload_n d_Reader_indexIn_44 rfl rfl ?_
          refine mv_isub d_Reader_indexIn_45 ?_
          have : ((i6_1 - i5_1) : Int32).toInt = i6_1.toInt - i5_1.toInt := mz_sub2 rfl rfl (by omega) (by omega)
          have : ((x3 - x2) : Int32).toInt = x3.toInt - x2.toInt := mz_sub2 rfl rfl (by omega) (by omega)
          have := mz_hi (i6_1 - i5_1)
          have := mz_hi (x3 - x2)
          refine mv_icmp_neZ (tgt := 65) (a := (i6_1 - i5_1).toInt) (b := (x3 - x2).toInt) d_Reader_indexIn_46 (by decide) rfl rfl (fun b4 => ?_) (fun b4 => ?_)
          · refine mv_iinc (v := (i4_1 + 1)) (lv' := [(4, .int (i4_1 + 1)), (6, .int i6_1), (5, .int i5_1), (0, .ref o0), (1, .ref 10), (2, .int x2), (3, .int x3)]) d_Reader_indexIn_65 rfl rfl (by decide) rfl ?_
            refine mv_iload d_Reader_indexIn_68 rfl ?_
            refine mv_iconst (v := 1) d_Reader_indexIn_70 (by decide) ?_
            refine mv_iadd d_Reader_indexIn_71 ?_
            refine mv_istore (lv' := [(5, .int (i6_1 + 1)), (4, .int (i4_1 + 1)), (6, .int i6_1), (0, .ref o0), (1, .ref 10), (2, .int x2), (3, .int x3)]) d_Reader_indexIn_72 (by decide) rfl ?_
            refine mv_iinc (v := (i6_1 + 1)) (lv' := [(6, .int (i6_1 + 1)), (5, .int (i6_1 + 1)), (4, .int (i4_1 + 1)), (0, .ref o0), (1, .ref 10), (2, .int x2), (3, .int x3)]) d_Reader_indexIn_74 rfl rfl (by decide) rfl ?_
            refine mv_goto (tgt := 9) d_Reader_indexIn_77 (by decide) ?_
            have : (i4_1 + 1 : Int32).toInt = i4_1.toInt + 1 := mz_addn 1 1 (by decide) (by omega) (by omega)
            have : (i6_1 + 1 : Int32).toInt = i6_1.toInt + 1 := mz_addn 1 1 (by decide) (by omega) (by omega)
            have : (i6_1 + 1 : Int32).toInt = i6_1.toInt + 1 := mz_addn 1 1 (by decide) (by omega) (by omega)
            have b5 : (i6_1 + 1).toInt = i6_1.toInt + 1 := mz_addn 1 1 (by decide) (by have := mz_lo i6_1; omega) (by have := mz_hi i6_1; omega)
            exact (ih1 (i6_1 + 1) (i6_1 + 1) (i4_1 + 1) T_1 M_1 n_1 I_1 h_q0_1 (by first | omega | decide) (by first | omega | decide) (by first | omega | decide) (by first | omega | decide) (by first | omega | decide) (by first | omega | decide) (by have e9 := iv6_1; rw [show (72 - i6_1.toInt).toNat = (72 - (i6_1.toInt + 1)).toNat + 1 from by omega] at e9; have e8 := p_lx_not (b := pb) (C := p_C 0) (L := 71) (s := x2.toInt.toNat) (e := x3.toInt.toNat) (f := (72 - (i6_1.toInt + 1)).toNat) (i := (i6_1.toInt).toNat) (p := (i5_1.toInt).toNat) (x := i4_1.toInt) (by omega) (by intro h9; omega); rw [e8] at e9; rw [show (72 - (i6_1.toInt + 1)).toNat = (72 - (i6_1 + 1).toInt).toNat from by omega, show (i6_1.toInt).toNat + 1 = ((i6_1 + 1).toInt).toNat from by omega] at e9; rw [show (i4_1 + 1).toInt = i4_1.toInt + 1 from by omega]; exact e9) (by omega))
          · refine mv_aload_n d_Reader_indexIn_49 rfl rfl ?_
            refine mv_aload_n d_Reader_indexIn_50 rfl rfl ?_
            refine mv_iload d_Reader_indexIn_51 rfl ?_
            refine mv_iload d_Reader_indexIn_53 rfl ?_
            refine mv_iload_n d_Reader_indexIn_55 rfl rfl ?_
            obtain ⟨_, b12, -⟩ := I_1.1 _ _ h_q0_1
            refine mv_callV (kc' := 0) (ks' := 0) (As := [.ref 10, .int i5_1, .int i6_1, .int x2]) (st9 := [.int x2, .int i6_1, .int i5_1, .ref 10, .ref o0]) d_Reader_indexIn_56 lV_Reader_281 b12 rfl (tc_Reader_matches_s1_10_x (d := d) (x9 := x9) (o0 := o0) (x2 := i5_1) (x3 := i6_1) (x4 := x2) h_q0_1 (hB I_1) (by omega) (by omega) I_1.start) rfl (Nat.le_of_ble_eq_true rfl) (Nat.le_of_ble_eq_true rfl) (Nat.le_of_ble_eq_true rfl) (hst := rfl) (fun b6r M7 n8 b6 => ?_)
            obtain ⟨T9, J10, v13, rfl, b14, b15, f16⟩ := b6
            have I11 := I_1.call J10 (tm_sub (by decide)) (Or.inl rfl)
            have t17 := J10.up h_q0_1
            have := mz_hi v13
            refine mv_if_eqZ (tgt := 65) (a := v13.toInt) d_Reader_indexIn_59 (by decide) rfl (fun b18 => ?_) (fun b18 => ?_)
            · refine mv_iinc (v := (i4_1 + 1)) (lv' := [(4, .int (i4_1 + 1)), (6, .int i6_1), (5, .int i5_1), (0, .ref o0), (1, .ref 10), (2, .int x2), (3, .int x3)]) d_Reader_indexIn_65 rfl rfl (by decide) rfl ?_
              refine mv_iload d_Reader_indexIn_68 rfl ?_
              refine mv_iconst (v := 1) d_Reader_indexIn_70 (by decide) ?_
              refine mv_iadd d_Reader_indexIn_71 ?_
              refine mv_istore (lv' := [(5, .int (i6_1 + 1)), (4, .int (i4_1 + 1)), (6, .int i6_1), (0, .ref o0), (1, .ref 10), (2, .int x2), (3, .int x3)]) d_Reader_indexIn_72 (by decide) rfl ?_
              refine mv_iinc (v := (i6_1 + 1)) (lv' := [(6, .int (i6_1 + 1)), (5, .int (i6_1 + 1)), (4, .int (i4_1 + 1)), (0, .ref o0), (1, .ref 10), (2, .int x2), (3, .int x3)]) d_Reader_indexIn_74 rfl rfl (by decide) rfl ?_
              refine mv_goto (tgt := 9) d_Reader_indexIn_77 (by decide) ?_
              have : (i4_1 + 1 : Int32).toInt = i4_1.toInt + 1 := mz_addn 1 1 (by decide) (by omega) (by omega)
              have : (i6_1 + 1 : Int32).toInt = i6_1.toInt + 1 := mz_addn 1 1 (by decide) (by omega) (by omega)
              have : (i6_1 + 1 : Int32).toInt = i6_1.toInt + 1 := mz_addn 1 1 (by decide) (by omega) (by omega)
              have b19 : (i6_1 + 1).toInt = i6_1.toInt + 1 := mz_addn 1 1 (by decide) (by have := mz_lo i6_1; omega) (by have := mz_hi i6_1; omega)
              exact (ih1 (i6_1 + 1) (i6_1 + 1) (i4_1 + 1) T9 M7 n8 I11 t17 (by first | omega | decide) (by first | omega | decide) (by first | omega | decide) (by first | omega | decide) (by first | omega | decide) (by first | omega | decide) (by have e9 := iv6_1; rw [show (72 - i6_1.toInt).toNat = (72 - (i6_1.toInt + 1)).toNat + 1 from by omega] at e9; have e8 := p_lx_not (b := pb) (C := p_C 0) (L := 71) (s := x2.toInt.toNat) (e := x3.toInt.toNat) (f := (72 - (i6_1.toInt + 1)).toNat) (i := (i6_1.toInt).toNat) (p := (i5_1.toInt).toNat) (x := i4_1.toInt) (by omega) (by intro h9; have h8 := h9.2; rw [show (i6_1.toInt).toNat - (i5_1.toInt).toNat = (i6_1.toInt - i5_1.toInt).toNat from by omega] at h8; have h7 := f16; rw [show (x2.toInt + i5_1.toInt - i5_1.toInt).toNat = x2.toInt.toNat from by omega, if_pos h8] at h7; omega); rw [e8] at e9; rw [show (72 - (i6_1.toInt + 1)).toNat = (72 - (i6_1 + 1).toInt).toNat from by omega, show (i6_1.toInt).toNat + 1 = ((i6_1 + 1).toInt).toNat from by omega] at e9; rw [show (i4_1 + 1).toInt = i4_1.toInt + 1 from by omega]; exact e9) (by omega))
            · refine mv_iload d_Reader_indexIn_62 rfl ?_
              exact mv_iret d_Reader_indexIn_64 rfl (by first | rfl | decide) ⟨_, I11, _, rfl, (by have e9 := iv6_1; rw [show (72 - i6_1.toInt).toNat = (72 - (i6_1.toInt + 1)).toNat + 1 from by omega] at e9; have e8 := p_lx_yes (b := pb) (C := p_C 0) (L := 71) (s := x2.toInt.toNat) (e := x3.toInt.toNat) (f := (72 - (i6_1.toInt + 1)).toNat) (i := (i6_1.toInt).toNat) (p := (i5_1.toInt).toNat) (x := i4_1.toInt) (by omega) (by omega) (by have h7 := f16; rw [show (x2.toInt + i5_1.toInt - i5_1.toInt).toNat = x2.toInt.toNat from by omega] at h7; rw [show (i6_1.toInt).toNat - (i5_1.toInt).toNat = (i6_1.toInt - i5_1.toInt).toNat from by omega]; exact Classical.byContradiction (fun h6 => by rw [if_neg h6] at h7; omega)); rw [e8] at e9; exact e9)⟩
        · refine mv_aload_n d_Reader_indexIn_27 rfl rfl ?_
          refine mv_iload d_Reader_indexIn_28 rfl ?_
          obtain ⟨v20, e21⟩ : ∃ v9 : Int32, mj_ch 0 i6_1.toNatClampNeg = v9 := ⟨_, rfl⟩
          refine mv_schC (i := 0) (v := v20) d_Reader_indexIn_30 lV_Reader_277 (by decide) rfl (by omega) (by show _ < ((71 : Nat) : Int); omega) (Nat.le_of_ble_eq_true rfl) e21 ?_
          have : v20.toInt = p_C 0 (i6_1.toInt).toNat := by rw [← e21]; show (mj_ch 0 _).toInt = (mj_ch 0 _).toInt; rw [show i6_1.toNatClampNeg = (i6_1.toInt).toNat from by have := mz_nat9 (i := i6_1) (by omega); omega]
          refine mv_bipush (v := 32) d_Reader_indexIn_33 (by decide) ?_
          have := mz_hi v20
          refine mv_icmp_neZ (tgt := 74) (a := v20.toInt) (b := 32) d_Reader_indexIn_35 (by decide) rfl (by decide) (fun b22 => ?_) (fun b22 => ?_)
          · refine mv_iinc (v := (i6_1 + 1)) (lv' := [(6, .int (i6_1 + 1)), (5, .int i5_1), (4, .int i4_1), (0, .ref o0), (1, .ref 10), (2, .int x2), (3, .int x3)]) d_Reader_indexIn_74 rfl rfl (by decide) rfl ?_
            refine mv_goto (tgt := 9) d_Reader_indexIn_77 (by decide) ?_
            have : (i6_1 + 1 : Int32).toInt = i6_1.toInt + 1 := mz_addn 1 1 (by decide) (by omega) (by omega)
            have b23 : (i6_1 + 1).toInt = i6_1.toInt + 1 := mz_addn 1 1 (by decide) (by have := mz_lo i6_1; omega) (by have := mz_hi i6_1; omega)
            exact (ih1 (i6_1 + 1) i5_1 i4_1 T_1 M_1 n_1 I_1 h_q0_1 (by first | omega | decide) (by first | omega | decide) (by first | omega | decide) (by first | omega | decide) (by first | omega | decide) (by first | omega | decide) (by have e9 := iv6_1; rw [show (72 - i6_1.toInt).toNat = (72 - (i6_1.toInt + 1)).toNat + 1 from by omega] at e9; have e8 := p_lx_no (b := pb) (C := p_C 0) (L := 71) (s := x2.toInt.toNat) (e := x3.toInt.toNat) (f := (72 - (i6_1.toInt + 1)).toNat) (i := (i6_1.toInt).toNat) (p := (i5_1.toInt).toNat) (x := i4_1.toInt) (by intro h9; omega); rw [e8] at e9; rw [show (72 - (i6_1.toInt + 1)).toNat = (72 - (i6_1 + 1).toInt).toNat from by omega, show (i6_1.toInt).toNat + 1 = ((i6_1 + 1).toInt).toNat from by omega] at e9; exact e9) (by omega))
          · refine mv_iload d_Reader_indexIn_38 rfl ?_
            refine mv_iload d_Reader_indexIn_40 rfl ?_
            refine mv_isub d_Reader_indexIn_42 ?_
            refine mv_iload_n d_Reader_indexIn_43 rfl rfl ?_
            refine mv_iload_n d_Reader_indexIn_44 rfl rfl ?_
            refine mv_isub d_Reader_indexIn_45 ?_
            have : ((i6_1 - i5_1) : Int32).toInt = i6_1.toInt - i5_1.toInt := mz_sub2 rfl rfl (by omega) (by omega)
            have : ((x3 - x2) : Int32).toInt = x3.toInt - x2.toInt := mz_sub2 rfl rfl (by omega) (by omega)
            have := mz_hi (i6_1 - i5_1)
            have := mz_hi (x3 - x2)
            refine mv_icmp_neZ (tgt := 65) (a := (i6_1 - i5_1).toInt) (b := (x3 - x2).toInt) d_Reader_indexIn_46 (by decide) rfl rfl (fun b24 => ?_) (fun b24 => ?_)
            · refine mv_iinc (v := (i4_1 + 1)) (lv' := [(4, .int (i4_1 + 1)), (6, .int i6_1), (5, .int i5_1), (0, .ref o0), (1, .ref 10), (2, .int x2), (3, .int x3)]) d_Reader_indexIn_65 rfl rfl (by decide) rfl ?_
              refine mv_iload d_Reader_indexIn_68 rfl ?_
              refine mv_iconst (v := 1) d_Reader_indexIn_70 (by decide) ?_
              refine mv_iadd d_Reader_indexIn_71 ?_
              refine mv_istore (lv' := [(5, .int (i6_1 + 1)), (4, .int (i4_1 + 1)), (6, .int i6_1), (0, .ref o0), (1, .ref 10), (2, .int x2), (3, .int x3)]) d_Reader_indexIn_72 (by decide) rfl ?_
              refine mv_iinc (v := (i6_1 + 1)) (lv' := [(6, .int (i6_1 + 1)), (5, .int (i6_1 + 1)), (4, .int (i4_1 + 1)), (0, .ref o0), (1, .ref 10), (2, .int x2), (3, .int x3)]) d_Reader_indexIn_74 rfl rfl (by decide) rfl ?_
              refine mv_goto (tgt := 9) d_Reader_indexIn_77 (by decide) ?_
              have : (i4_1 + 1 : Int32).toInt = i4_1.toInt + 1 := mz_addn 1 1 (by decide) (by omega) (by omega)
              have : (i6_1 + 1 : Int32).toInt = i6_1.toInt + 1 := mz_addn 1 1 (by decide) (by omega) (by omega)
              have : (i6_1 + 1 : Int32).toInt = i6_1.toInt + 1 := mz_addn 1 1 (by decide) (by omega) (by omega)
              have b25 : (i6_1 + 1).toInt = i6_1.toInt + 1 := mz_addn 1 1 (by decide) (by have := mz_lo i6_1; omega) (by have := mz_hi i6_1; omega)
              exact (ih1 (i6_1 + 1) (i6_1 + 1) (i4_1 + 1) T_1 M_1 n_1 I_1 h_q0_1 (by first | omega | decide) (by first | omega | decide) (by first | omega | decide) (by first | omega | decide) (by first | omega | decide) (by first | omega | decide) (by have e9 := iv6_1; rw [show (72 - i6_1.toInt).toNat = (72 - (i6_1.toInt + 1)).toNat + 1 from by omega] at e9; have e8 := p_lx_not (b := pb) (C := p_C 0) (L := 71) (s := x2.toInt.toNat) (e := x3.toInt.toNat) (f := (72 - (i6_1.toInt + 1)).toNat) (i := (i6_1.toInt).toNat) (p := (i5_1.toInt).toNat) (x := i4_1.toInt) (by omega) (by intro h9; omega); rw [e8] at e9; rw [show (72 - (i6_1.toInt + 1)).toNat = (72 - (i6_1 + 1).toInt).toNat from by omega, show (i6_1.toInt).toNat + 1 = ((i6_1 + 1).toInt).toNat from by omega] at e9; rw [show (i4_1 + 1).toInt = i4_1.toInt + 1 from by omega]; exact e9) (by omega))
            · refine mv_aload_n d_Reader_indexIn_49 rfl rfl ?_
              refine mv_aload_n d_Reader_indexIn_50 rfl rfl ?_
              refine mv_iload d_Reader_indexIn_51 rfl ?_
              refine mv_iload d_Reader_indexIn_53 rfl ?_
              refine mv_iload_n d_Reader_indexIn_55 rfl rfl ?_
              obtain ⟨_, b32, -⟩ := I_1.1 _ _ h_q0_1
              refine mv_callV (kc' := 0) (ks' := 0) (As := [.ref 10, .int i5_1, .int i6_1, .int x2]) (st9 := [.int x2, .int i6_1, .int i5_1, .ref 10, .ref o0]) d_Reader_indexIn_56 lV_Reader_281 b32 rfl (tc_Reader_matches_s1_10_x (d := d) (x9 := x9) (o0 := o0) (x2 := i5_1) (x3 := i6_1) (x4 := x2) h_q0_1 (hB I_1) (by omega) (by omega) I_1.start) rfl (Nat.le_of_ble_eq_true rfl) (Nat.le_of_ble_eq_true rfl) (Nat.le_of_ble_eq_true rfl) (hst := rfl) (fun b26r M27 n28 b26 => ?_)
              obtain ⟨T29, J30, v33, rfl, b34, b35, f36⟩ := b26
              have I31 := I_1.call J30 (tm_sub (by decide)) (Or.inl rfl)
              have t37 := J30.up h_q0_1
              have := mz_hi v33
              refine mv_if_eqZ (tgt := 65) (a := v33.toInt) d_Reader_indexIn_59 (by decide) rfl (fun b38 => ?_) (fun b38 => ?_)
              · refine mv_iinc (v := (i4_1 + 1)) (lv' := [(4, .int (i4_1 + 1)), (6, .int i6_1), (5, .int i5_1), (0, .ref o0), (1, .ref 10), (2, .int x2), (3, .int x3)]) d_Reader_indexIn_65 rfl rfl (by decide) rfl ?_
                refine mv_iload d_Reader_indexIn_68 rfl ?_
                refine mv_iconst (v := 1) d_Reader_indexIn_70 (by decide) ?_
                refine mv_iadd d_Reader_indexIn_71 ?_
                refine mv_istore (lv' := [(5, .int (i6_1 + 1)), (4, .int (i4_1 + 1)), (6, .int i6_1), (0, .ref o0), (1, .ref 10), (2, .int x2), (3, .int x3)]) d_Reader_indexIn_72 (by decide) rfl ?_
                refine mv_iinc (v := (i6_1 + 1)) (lv' := [(6, .int (i6_1 + 1)), (5, .int (i6_1 + 1)), (4, .int (i4_1 + 1)), (0, .ref o0), (1, .ref 10), (2, .int x2), (3, .int x3)]) d_Reader_indexIn_74 rfl rfl (by decide) rfl ?_
                refine mv_goto (tgt := 9) d_Reader_indexIn_77 (by decide) ?_
                have : (i4_1 + 1 : Int32).toInt = i4_1.toInt + 1 := mz_addn 1 1 (by decide) (by omega) (by omega)
                have : (i6_1 + 1 : Int32).toInt = i6_1.toInt + 1 := mz_addn 1 1 (by decide) (by omega) (by omega)
                have : (i6_1 + 1 : Int32).toInt = i6_1.toInt + 1 := mz_addn 1 1 (by decide) (by omega) (by omega)
                have b39 : (i6_1 + 1).toInt = i6_1.toInt + 1 := mz_addn 1 1 (by decide) (by have := mz_lo i6_1; omega) (by have := mz_hi i6_1; omega)
                exact (ih1 (i6_1 + 1) (i6_1 + 1) (i4_1 + 1) T29 M27 n28 I31 t37 (by first | omega | decide) (by first | omega | decide) (by first | omega | decide) (by first | omega | decide) (by first | omega | decide) (by first | omega | decide) (by have e9 := iv6_1; rw [show (72 - i6_1.toInt).toNat = (72 - (i6_1.toInt + 1)).toNat + 1 from by omega] at e9; have e8 := p_lx_not (b := pb) (C := p_C 0) (L := 71) (s := x2.toInt.toNat) (e := x3.toInt.toNat) (f := (72 - (i6_1.toInt + 1)).toNat) (i := (i6_1.toInt).toNat) (p := (i5_1.toInt).toNat) (x := i4_1.toInt) (by omega) (by intro h9; have h8 := h9.2; rw [show (i6_1.toInt).toNat - (i5_1.toInt).toNat = (i6_1.toInt - i5_1.toInt).toNat from by omega] at h8; have h7 := f36; rw [show (x2.toInt + i5_1.toInt - i5_1.toInt).toNat = x2.toInt.toNat from by omega, if_pos h8] at h7; omega); rw [e8] at e9; rw [show (72 - (i6_1.toInt + 1)).toNat = (72 - (i6_1 + 1).toInt).toNat from by omega, show (i6_1.toInt).toNat + 1 = ((i6_1 + 1).toInt).toNat from by omega] at e9; rw [show (i4_1 + 1).toInt = i4_1.toInt + 1 from by omega]; exact e9) (by omega))
              · refine mv_iload d_Reader_indexIn_62 rfl ?_
                exact mv_iret d_Reader_indexIn_64 rfl (by first | rfl | decide) ⟨_, I31, _, rfl, (by have e9 := iv6_1; rw [show (72 - i6_1.toInt).toNat = (72 - (i6_1.toInt + 1)).toNat + 1 from by omega] at e9; have e8 := p_lx_yes (b := pb) (C := p_C 0) (L := 71) (s := x2.toInt.toNat) (e := x3.toInt.toNat) (f := (72 - (i6_1.toInt + 1)).toNat) (i := (i6_1.toInt).toNat) (p := (i5_1.toInt).toNat) (x := i4_1.toInt) (by omega) (by omega) (by have h7 := f36; rw [show (x2.toInt + i5_1.toInt - i5_1.toInt).toNat = x2.toInt.toNat from by omega] at h7; rw [show (i6_1.toInt).toNat - (i5_1.toInt).toNat = (i6_1.toInt - i5_1.toInt).toNat from by omega]; exact Classical.byContradiction (fun h6 => by rw [if_neg h6] at h7; omega)); rw [e8] at e9; exact e9)⟩
  exact mv_less (Nat.zero_le _) (Nat.zero_le _) (L9_1 4294967296 0 0 0 T0 M0 n0 I0 h_o0 (by first | omega | decide) (by first | omega | decide) (by first | omega | decide) (by first | omega | decide) (by first | omega | decide) (by first | omega | decide) (by rw [show (0 : Int32).toInt = 0 from by decide]; rfl) (by show (2147483647 - (0 : Int) : Int) < _; decide))
def w_Reader_matches_s1_11_x : List Nat := []
set_option maxHeartbeats 100000000 in theorem tc_Reader_matches_s1_11_x {g : mj_G} {l : Launch} {d : Nat} {T0 : tm_H} {M0 : mj_M} {n0 x9 : Nat} {o0 : Nat} {x2 : Int32} {x3 : Int32} {x4 : Int32} (h_o0 : T0 o0 = some (0, 9, 0)) {pb : Nat → Int} {pn : Nat} (yB : qB M0 o0 pb pn) (yh : 0 ≤ x2.toInt ∧ x2.toInt ≤ x3.toInt ∧ x3.toInt ≤ 94) (yh2 : 0 ≤ x4.toInt ∧ x4.toInt + (x3.toInt - x2.toInt) ≤ (pn : Int)) (I0 : tm_I tm_FT (tm_in w_Reader_matches_s1_11_x) x9 T0 M0 n0 T0 M0 n0) : mj_Met g l kY_Reader_matches (d + 4) [.ref o0, .ref 11, .int x2, .int x3, .int x4] M0 n0 0 0 (tm_Q tm_FT (tm_in w_Reader_matches_s1_11_x) x9 T0 M0 n0 (fun r _ M => ∃ v : Int32, r = some (.int v) ∧ 0 ≤ v.toInt ∧ v.toInt ≤ 1 ∧ (v.toInt = if p_cm pb (p_C 1) (x3.toInt - x2.toInt).toNat (x2.toInt).toNat (x4.toInt + x2.toInt - x2.toInt).toNat = true then 1 else 0))) := by
  refine mj_enter (by decide) (Nat.le_of_ble_eq_true rfl) ?_
  have hB : ∀ {T : tm_H} {M : mj_M} {n : Nat}, tm_I tm_FT (tm_in w_Reader_matches_s1_11_x) x9 T0 M0 n0 T M n → qB M o0 pb pn := fun I => yB.keep I0.1 I h_o0 (by decide +kernel) (by decide +kernel) (by decide +kernel)
  have := yB.1
  have := yB.2.1
  refine mv_iload_n d_Reader_matches_0 rfl rfl ?_
  refine mv_istore (lv' := [(5, .int x2), (0, .ref o0), (1, .ref 11), (2, .int x2), (3, .int x3), (4, .int x4)]) d_Reader_matches_1 (by decide) rfl ?_
  have L3_1 : ∀ (k : Nat) (i5_1 : Int32) (T_1 : tm_H) (M_1 : mj_M) (n_1 : Nat), tm_I tm_FT (tm_in w_Reader_matches_s1_11_x) x9 T0 M0 n0 T_1 M_1 n_1 → T_1 o0 = some (0, 9, 0) → x2.toInt ≤ i5_1.toInt → i5_1.toInt ≤ x3.toInt → p_cm pb (p_C 1) (x3.toInt - i5_1.toInt).toNat (i5_1.toInt).toNat (x4.toInt + i5_1.toInt - x2.toInt).toNat = p_cm pb (p_C 1) (x3.toInt - x2.toInt).toNat (x2.toInt).toNat (x4.toInt + x2.toInt - x2.toInt).toNat → 2147483647 - i5_1.toInt < (k : Int) → mj_V g l kY_Reader_matches (d + 4) 3 [(5, .int i5_1), (0, .ref o0), (1, .ref 11), (2, .int x2), (3, .int x3), (4, .int x4)] [] M_1 n_1 0 0 (tm_Q tm_FT (tm_in w_Reader_matches_s1_11_x) x9 T0 M0 n0 (fun r _ M => ∃ v : Int32, r = some (.int v) ∧ 0 ≤ v.toInt ∧ v.toInt ≤ 1 ∧ (v.toInt = if p_cm pb (p_C 1) (x3.toInt - x2.toInt).toNat (x2.toInt).toNat (x4.toInt + x2.toInt - x2.toInt).toNat = true then 1 else 0))) := by
    intro k1
    induction k1 with
    | zero =>
      intro i5_1 T_1 M_1 n_1 I_1 h_q0_1 iv0_1 iv1_1 iv2_1 hk1
      have := mz_hi i5_1
      omega
    | succ k1 ih1 =>
      intro i5_1 T_1 M_1 n_1 I_1 h_q0_1 iv0_1 iv1_1 iv2_1 hk1
      refine mv_iload d_Reader_matches_3 rfl ?_
      have := mz_hi i5_1
      refine mv_if_ltZ (tgt := 69) (a := i5_1.toInt) d_Reader_matches_5 (by decide) rfl (fun b2 => ?_) (fun b2 => ?_)
      · refine mv_iconst (v := 1) d_Reader_matches_69 (by decide) ?_
        exact mv_iret d_Reader_matches_70 rfl (by decide) ⟨_, I_1, _, rfl, by decide, by decide, (by first | (have e9 : true = p_cm pb (p_C 1) (x3.toInt - x2.toInt).toNat (x2.toInt).toNat (x4.toInt + x2.toInt - x2.toInt).toNat := (by rw [← iv2_1, show (x3.toInt - i5_1.toInt).toNat = 0 from by omega]; rfl); exact (show (1 : Int32).toInt = 1 from by decide).trans (if_pos e9.symm).symm) | (exfalso; omega))⟩
      · refine mv_iload d_Reader_matches_8 rfl ?_
        refine mv_iload_n d_Reader_matches_10 rfl rfl ?_
        have := mz_hi i5_1
        have := mz_hi x3
        refine mv_icmp_geZ (tgt := 69) (a := i5_1.toInt) (b := x3.toInt) d_Reader_matches_11 (by decide) rfl rfl (fun b3 => ?_) (fun b3 => ?_)
        · refine mv_iconst (v := 1) d_Reader_matches_69 (by decide) ?_
          exact mv_iret d_Reader_matches_70 rfl (by decide) ⟨_, I_1, _, rfl, by decide, by decide, (by first | (have e9 : true = p_cm pb (p_C 1) (x3.toInt - x2.toInt).toNat (x2.toInt).toNat (x4.toInt + x2.toInt - x2.toInt).toNat := (by rw [← iv2_1, show (x3.toInt - i5_1.toInt).toNat = 0 from by omega]; rfl); exact (show (1 : Int32).toInt = 1 from by decide).trans (if_pos e9.symm).symm) | (exfalso; omega))⟩
        · refine mv_iload d_Reader_matches_14 rfl ?_
          refine mv_aload_n d_Reader_matches_16 rfl rfl ?_
          refine mv_slenK (i := 1) (v := 94) d_Reader_matches_17 lV_Reader_272 (by decide) rfl (by decide) (Nat.le_of_ble_eq_true rfl) ?_
          have := mz_hi i5_1
          refine mv_icmp_geZ (tgt := 69) (a := i5_1.toInt) (b := 94) d_Reader_matches_20 (by decide) rfl (by decide) (fun b4 => ?_) (fun b4 => ?_)
          · refine mv_iconst (v := 1) d_Reader_matches_69 (by decide) ?_
            exact mv_iret d_Reader_matches_70 rfl (by decide) ⟨_, I_1, _, rfl, by decide, by decide, (by first | (have e9 : true = p_cm pb (p_C 1) (x3.toInt - x2.toInt).toNat (x2.toInt).toNat (x4.toInt + x2.toInt - x2.toInt).toNat := (by rw [← iv2_1, show (x3.toInt - i5_1.toInt).toNat = 0 from by omega]; rfl); exact (show (1 : Int32).toInt = 1 from by decide).trans (if_pos e9.symm).symm) | (exfalso; omega))⟩
          · refine mv_iload d_Reader_matches_23 rfl ?_
            refine mv_iload d_Reader_matches_25 rfl ?_
            refine mv_iadd d_Reader_matches_27 ?_
            refine mv_iload_n d_Reader_matches_28 rfl rfl ?_
            have : (((x4 + i5_1) - x2) : Int32).toInt = x4.toInt + i5_1.toInt - x2.toInt := mz_sub2 (mz_add2 rfl rfl (by omega) (by omega)) rfl (by omega) (by omega)
            refine mv_isub d_Reader_matches_29 ?_
            refine mv_istore (lv' := [(6, .int ((x4 + i5_1) - x2)), (5, .int i5_1), (0, .ref o0), (1, .ref 11), (2, .int x2), (3, .int x3), (4, .int x4)]) d_Reader_matches_30 (by decide) rfl ?_
            refine mv_iload d_Reader_matches_32 rfl ?_
            have := mz_hi ((x4 + i5_1) - x2)
            refine mv_if_ltZ (tgt := 61) (a := ((x4 + i5_1) - x2).toInt) d_Reader_matches_34 (by decide) rfl (fun b5 => ?_) (fun b5 => ?_)
            · refine mv_iconst (v := 0) d_Reader_matches_61 (by decide) ?_
              exact mv_iret d_Reader_matches_62 rfl (by decide) ⟨_, I_1, _, rfl, by decide, by decide, (by first | (have e9 : false = p_cm pb (p_C 1) (x3.toInt - x2.toInt).toNat (x2.toInt).toNat (x4.toInt + x2.toInt - x2.toInt).toNat := (by rw [← iv2_1, show (x3.toInt - i5_1.toInt).toNat = (x3.toInt - (i5_1.toInt + 1)).toNat + 1 from by omega, p_cm_no (by rw [show (x4.toInt + i5_1.toInt - x2.toInt).toNat = (((x4 + i5_1) - x2).toInt).toNat from by omega]; omega)]); exact (show (0 : Int32).toInt = 0 from by decide).trans (if_neg (by rw [← e9]; decide)).symm) | (exfalso; omega))⟩
            · refine mv_iload d_Reader_matches_37 rfl ?_
              refine mv_sipush (v := 400) d_Reader_matches_39 (by decide) ?_
              have := mz_hi ((x4 + i5_1) - x2)
              refine mv_icmp_geZ (tgt := 61) (a := ((x4 + i5_1) - x2).toInt) (b := 400) d_Reader_matches_42 (by decide) rfl (by decide) (fun b6 => ?_) (fun b6 => ?_)
              · refine mv_iconst (v := 0) d_Reader_matches_61 (by decide) ?_
                exact mv_iret d_Reader_matches_62 rfl (by decide) ⟨_, I_1, _, rfl, by decide, by decide, (by first | (have e9 : false = p_cm pb (p_C 1) (x3.toInt - x2.toInt).toNat (x2.toInt).toNat (x4.toInt + x2.toInt - x2.toInt).toNat := (by rw [← iv2_1, show (x3.toInt - i5_1.toInt).toNat = (x3.toInt - (i5_1.toInt + 1)).toNat + 1 from by omega, p_cm_no (by rw [show (x4.toInt + i5_1.toInt - x2.toInt).toNat = (((x4 + i5_1) - x2).toInt).toNat from by omega]; omega)]); exact (show (0 : Int32).toInt = 0 from by decide).trans (if_neg (by rw [← e9]; decide)).symm) | (exfalso; omega))⟩
              · refine mv_aload_n d_Reader_matches_45 rfl rfl ?_
                refine mv_iload d_Reader_matches_46 rfl ?_
                obtain ⟨v7, e8⟩ : ∃ v9 : Int32, mj_ch 1 i5_1.toNatClampNeg = v9 := ⟨_, rfl⟩
                refine mv_schC (i := 1) (v := v7) d_Reader_matches_48 lV_Reader_277 (by decide) rfl (by omega) (by show _ < ((94 : Nat) : Int); omega) (Nat.le_of_ble_eq_true rfl) e8 ?_
                have : v7.toInt = p_C 1 (i5_1.toInt).toNat := by rw [← e8]; show (mj_ch 1 _).toInt = (mj_ch 1 _).toInt; rw [show i5_1.toNatClampNeg = (i5_1.toInt).toNat from by have := mz_nat9 (i := i5_1) (by omega); omega]
                refine mv_aload_n d_Reader_matches_51 rfl rfl ?_
                obtain ⟨a10, q9, t_a10⟩ := tm_atR I_1 h_q0_1 (k := 3) rfl
                refine tr_getK q9 d_Reader_matches_52 f_Reader_15_9 ?_
                refine mv_iload d_Reader_matches_55 rfl ?_
                refine tr_iald9 (o := o0) (k := 3) I_1 q9 t_a10 (by decide) d_Reader_matches_57 (vp_in_iff.mpr (by omega)) (fun v11 e12 => ?_)
                have : 0 ≤ ((x4 + i5_1) - x2).toInt → ((x4 + i5_1) - x2).toInt < (pn : Int) → v11.toInt = pb (((x4 + i5_1) - x2).toInt).toNat := fun h8 h9 => by rw [e12, show ((x4 + i5_1) - x2).toNatClampNeg = (((x4 + i5_1) - x2).toInt).toNat from by have := mz_nat9 (i := ((x4 + i5_1) - x2)) h8; omega]; exact (hB I_1).2.2.2 _ (by omega)
                have := mz_hi v7
                have := mz_hi v11
                refine mv_icmp_eqZ (tgt := 63) (a := v7.toInt) (b := v11.toInt) d_Reader_matches_58 (by decide) rfl rfl (fun b13 => ?_) (fun b13 => ?_)
                · refine mv_iinc (v := (i5_1 + 1)) (lv' := [(5, .int (i5_1 + 1)), (6, .int ((x4 + i5_1) - x2)), (0, .ref o0), (1, .ref 11), (2, .int x2), (3, .int x3), (4, .int x4)]) d_Reader_matches_63 rfl rfl (by decide) rfl ?_
                  refine mv_goto (tgt := 3) d_Reader_matches_66 (by decide) ?_
                  have : (i5_1 + 1 : Int32).toInt = i5_1.toInt + 1 := mz_addn 1 1 (by decide) (by omega) (by omega)
                  refine mv_locals (lv' := [(5, .int (i5_1 + 1)), (0, .ref o0), (1, .ref 11), (2, .int x2), (3, .int x3), (4, .int x4)]) (by intro q hq; simp only [List.mem_cons, List.not_mem_nil, or_false] at hq; rcases hq with rfl | rfl | rfl | rfl | rfl | rfl <;> rfl) ?_
                  have b14 : (i5_1 + 1).toInt = i5_1.toInt + 1 := mz_addn 1 1 (by decide) (by have := mz_lo i5_1; omega) (by have := mz_hi i5_1; omega)
                  exact (ih1 (i5_1 + 1) T_1 M_1 n_1 I_1 h_q0_1 (by first | omega | decide) (by first | omega | decide) (by have e9 := iv2_1; rw [show (x3.toInt - i5_1.toInt).toNat = (x3.toInt - (i5_1 + 1).toInt).toNat + 1 from by omega, p_cm_on (by rw [show (x4.toInt + i5_1.toInt - x2.toInt).toNat = (((x4 + i5_1) - x2).toInt).toNat from by omega]; omega), show (i5_1.toInt).toNat + 1 = ((i5_1 + 1).toInt).toNat from by omega, show (x4.toInt + i5_1.toInt - x2.toInt).toNat + 1 = (x4.toInt + (i5_1 + 1).toInt - x2.toInt).toNat from by omega] at e9; exact e9) (by omega))
                · refine mv_iconst (v := 0) d_Reader_matches_61 (by decide) ?_
                  exact mv_iret d_Reader_matches_62 rfl (by decide) ⟨_, I_1, _, rfl, by decide, by decide, (by first | (have e9 : false = p_cm pb (p_C 1) (x3.toInt - x2.toInt).toNat (x2.toInt).toNat (x4.toInt + x2.toInt - x2.toInt).toNat := (by rw [← iv2_1, show (x3.toInt - i5_1.toInt).toNat = (x3.toInt - (i5_1.toInt + 1)).toNat + 1 from by omega, p_cm_no (by rw [show (x4.toInt + i5_1.toInt - x2.toInt).toNat = (((x4 + i5_1) - x2).toInt).toNat from by omega]; omega)]); exact (show (0 : Int32).toInt = 0 from by decide).trans (if_neg (by rw [← e9]; decide)).symm) | (exfalso; omega))⟩
  exact mv_less (Nat.zero_le _) (Nat.zero_le _) (L3_1 4294967296 x2 T0 M0 n0 I0 h_o0 (by first | omega | decide) (by first | omega | decide) rfl (by have := mz_lo x2; omega))
def w_Reader_indexIn_s1_11_x : List Nat := []
set_option maxHeartbeats 100000000 in theorem tc_Reader_indexIn_s1_11_x {g : mj_G} {l : Launch} {d : Nat} {T0 : tm_H} {M0 : mj_M} {n0 x9 : Nat} {o0 : Nat} {x2 : Int32} {x3 : Int32} (h_o0 : T0 o0 = some (0, 9, 0)) {pb : Nat → Int} {pn : Nat} (yB : qB M0 o0 pb pn) (yh : 0 ≤ x2.toInt ∧ x2.toInt ≤ x3.toInt ∧ x3.toInt ≤ (pn : Int)) (I0 : tm_I tm_FT (tm_in w_Reader_indexIn_s1_11_x) x9 T0 M0 n0 T0 M0 n0) : mj_Met g l kY_Reader_indexIn (d + 5) [.ref o0, .ref 11, .int x2, .int x3] M0 n0 0 0 (tm_Q tm_FT (tm_in w_Reader_indexIn_s1_11_x) x9 T0 M0 n0 (fun r _ M => ∃ v : Int32, r = some (.int v) ∧ (v.toInt = p_lx pb (p_C 1) 94 x2.toInt.toNat x3.toInt.toNat 95 0 0 0))) := by
  refine mj_enter (by decide) (Nat.le_of_ble_eq_true rfl) ?_
  have hB : ∀ {T : tm_H} {M : mj_M} {n : Nat}, tm_I tm_FT (tm_in w_Reader_indexIn_s1_11_x) x9 T0 M0 n0 T M n → qB M o0 pb pn := fun I => yB.keep I0.1 I h_o0 (by decide +kernel) (by decide +kernel) (by decide +kernel)
  have := yB.1
  have := yB.2.1
  refine mv_iconst (v := 0) d_Reader_indexIn_0 (by decide) ?_
  refine mv_istore (lv' := [(4, .int 0), (0, .ref o0), (1, .ref 11), (2, .int x2), (3, .int x3)]) d_Reader_indexIn_1 (by decide) rfl ?_
  refine mv_iconst (v := 0) d_Reader_indexIn_3 (by decide) ?_
  refine mv_istore (lv' := [(5, .int 0), (4, .int 0), (0, .ref o0), (1, .ref 11), (2, .int x2), (3, .int x3)]) d_Reader_indexIn_4 (by decide) rfl ?_
  refine mv_iconst (v := 0) d_Reader_indexIn_6 (by decide) ?_
  refine mv_istore (lv' := [(6, .int 0), (5, .int 0), (4, .int 0), (0, .ref o0), (1, .ref 11), (2, .int x2), (3, .int x3)]) d_Reader_indexIn_7 (by decide) rfl ?_
  have L9_1 : ∀ (k : Nat) (i6_1 : Int32) (i5_1 : Int32) (i4_1 : Int32) (T_1 : tm_H) (M_1 : mj_M) (n_1 : Nat), tm_I tm_FT (tm_in w_Reader_indexIn_s1_11_x) x9 T0 M0 n0 T_1 M_1 n_1 → T_1 o0 = some (0, 9, 0) → 0 ≤ i6_1.toInt → 0 ≤ i4_1.toInt → i4_1.toInt ≤ i6_1.toInt → 0 ≤ i5_1.toInt → i5_1.toInt ≤ i6_1.toInt → i6_1.toInt ≤ 95 → p_lx pb (p_C 1) 94 x2.toInt.toNat x3.toInt.toNat (95 - i6_1.toInt).toNat (i6_1.toInt).toNat (i5_1.toInt).toNat i4_1.toInt = p_lx pb (p_C 1) 94 x2.toInt.toNat x3.toInt.toNat 95 0 0 0 → 2147483647 - i6_1.toInt < (k : Int) → mj_V g l kY_Reader_indexIn (d + 5) 9 [(6, .int i6_1), (5, .int i5_1), (4, .int i4_1), (0, .ref o0), (1, .ref 11), (2, .int x2), (3, .int x3)] [] M_1 n_1 0 0 (tm_Q tm_FT (tm_in w_Reader_indexIn_s1_11_x) x9 T0 M0 n0 (fun r _ M => ∃ v : Int32, r = some (.int v) ∧ (v.toInt = p_lx pb (p_C 1) 94 x2.toInt.toNat x3.toInt.toNat 95 0 0 0))) := by
    intro k1
    induction k1 with
    | zero =>
      intro i6_1 i5_1 i4_1 T_1 M_1 n_1 I_1 h_q0_1 iv0_1 iv1_1 iv2_1 iv3_1 iv4_1 iv5_1 iv6_1 hk1
      have := mz_hi i6_1
      omega
    | succ k1 ih1 =>
      intro i6_1 i5_1 i4_1 T_1 M_1 n_1 I_1 h_q0_1 iv0_1 iv1_1 iv2_1 iv3_1 iv4_1 iv5_1 iv6_1 hk1
      refine mv_iload d_Reader_indexIn_9 rfl ?_
      refine mv_aload_n d_Reader_indexIn_11 rfl rfl ?_
      refine mv_slenK (i := 1) (v := 94) d_Reader_indexIn_12 lV_Reader_272 (by decide) rfl (by decide) (Nat.le_of_ble_eq_true rfl) ?_
      have := mz_hi i6_1
      refine mv_icmp_gtZ (tgt := 80) (a := i6_1.toInt) (b := 94) d_Reader_indexIn_15 (by decide) rfl (by decide) (fun b2 => ?_) (fun b2 => ?_)
      · refine mv_iconst (v := (-1)) d_Reader_indexIn_80 (by decide) ?_
        exact mv_iret d_Reader_indexIn_81 rfl (by first | rfl | decide) ⟨_, I_1, _, rfl, (by have e9 := iv6_1; rw [show (95 - i6_1.toInt).toNat = 0 from by omega] at e9; rw [← e9]; rfl)⟩
      · refine mv_iload d_Reader_indexIn_18 rfl ?_
        refine mv_aload_n d_Reader_indexIn_20 rfl rfl ?_
        refine mv_slenK (i := 1) (v := 94) d_Reader_indexIn_21 lV_Reader_272 (by decide) rfl (by decide) (Nat.le_of_ble_eq_true rfl) ?_
        have := mz_hi i6_1
        refine mv_icmp_eqZ (tgt := 38) (a := i6_1.toInt) (b := 94) d_Reader_indexIn_24 (by decide) rfl (by decide) (fun b3 => ?_) (fun b3 => ?_)
        · refine mv_iload d_Reader_indexIn_38 rfl ?_
          refine mv_iload d_Reader_indexIn_40 rfl ?_
          refine mv_isub d_Reader_indexIn_42 ?_
          refine mv_iload_n d_Reader_indexIn_43 rfl rfl ?_
          refine mv_iload_n d_Reader_indexIn_44 rfl rfl ?_
          refine mv_isub d_Reader_indexIn_45 ?_
          have : ((i6_1 - i5_1) : Int32).toInt = i6_1.toInt - i5_1.toInt := mz_sub2 rfl rfl (by omega) (by omega)
          have : ((x3 - x2) : Int32).toInt = x3.toInt - x2.toInt := mz_sub2 rfl rfl (by omega) (by omega)
          have := mz_hi (i6_1 - i5_1)
          have := mz_hi (x3 - x2)
          refine mv_icmp_neZ (tgt := 65) (a := (i6_1 - i5_1).toInt) (b := (x3 - x2).toInt) d_Reader_indexIn_46 (by decide) rfl rfl (fun b4 => ?_) (fun b4 => ?_)
          · refine mv_iinc (v := (i4_1 + 1)) (lv' := [(4, .int (i4_1 + 1)), (6, .int i6_1), (5, .int i5_1), (0, .ref o0), (1, .ref 11), (2, .int x2), (3, .int x3)]) d_Reader_indexIn_65 rfl rfl (by decide) rfl ?_
            refine mv_iload d_Reader_indexIn_68 rfl ?_
            refine mv_iconst (v := 1) d_Reader_indexIn_70 (by decide) ?_
            refine mv_iadd d_Reader_indexIn_71 ?_
            refine mv_istore (lv' := [(5, .int (i6_1 + 1)), (4, .int (i4_1 + 1)), (6, .int i6_1), (0, .ref o0), (1, .ref 11), (2, .int x2), (3, .int x3)]) d_Reader_indexIn_72 (by decide) rfl ?_
            refine mv_iinc (v := (i6_1 + 1)) (lv' := [(6, .int (i6_1 + 1)), (5, .int (i6_1 + 1)), (4, .int (i4_1 + 1)), (0, .ref o0), (1, .ref 11), (2, .int x2), (3, .int x3)]) d_Reader_indexIn_74 rfl rfl (by decide) rfl ?_
            refine mv_goto (tgt := 9) d_Reader_indexIn_77 (by decide) ?_
            have : (i4_1 + 1 : Int32).toInt = i4_1.toInt + 1 := mz_addn 1 1 (by decide) (by omega) (by omega)
            have : (i6_1 + 1 : Int32).toInt = i6_1.toInt + 1 := mz_addn 1 1 (by decide) (by omega) (by omega)
            have : (i6_1 + 1 : Int32).toInt = i6_1.toInt + 1 := mz_addn 1 1 (by decide) (by omega) (by omega)
            have b5 : (i6_1 + 1).toInt = i6_1.toInt + 1 := mz_addn 1 1 (by decide) (by have := mz_lo i6_1; omega) (by have := mz_hi i6_1; omega)
            exact (ih1 (i6_1 + 1) (i6_1 + 1) (i4_1 + 1) T_1 M_1 n_1 I_1 h_q0_1 (by first | omega | decide) (by first | omega | decide) (by first | omega | decide) (by first | omega | decide) (by first | omega | decide) (by first | omega | decide) (by have e9 := iv6_1; rw [show (95 - i6_1.toInt).toNat = (95 - (i6_1.toInt + 1)).toNat + 1 from by omega] at e9; have e8 := p_lx_not (b := pb) (C := p_C 1) (L := 94) (s := x2.toInt.toNat) (e := x3.toInt.toNat) (f := (95 - (i6_1.toInt + 1)).toNat) (i := (i6_1.toInt).toNat) (p := (i5_1.toInt).toNat) (x := i4_1.toInt) (by omega) (by intro h9; omega); rw [e8] at e9; rw [show (95 - (i6_1.toInt + 1)).toNat = (95 - (i6_1 + 1).toInt).toNat from by omega, show (i6_1.toInt).toNat + 1 = ((i6_1 + 1).toInt).toNat from by omega] at e9; rw [show (i4_1 + 1).toInt = i4_1.toInt + 1 from by omega]; exact e9) (by omega))
          · refine mv_aload_n d_Reader_indexIn_49 rfl rfl ?_
            refine mv_aload_n d_Reader_indexIn_50 rfl rfl ?_
            refine mv_iload d_Reader_indexIn_51 rfl ?_
            refine mv_iload d_Reader_indexIn_53 rfl ?_
            refine mv_iload_n d_Reader_indexIn_55 rfl rfl ?_
            obtain ⟨_, b12, -⟩ := I_1.1 _ _ h_q0_1
            refine mv_callV (kc' := 0) (ks' := 0) (As := [.ref 11, .int i5_1, .int i6_1, .int x2]) (st9 := [.int x2, .int i6_1, .int i5_1, .ref 11, .ref o0]) d_Reader_indexIn_56 lV_Reader_281 b12 rfl (tc_Reader_matches_s1_11_x (d := d) (x9 := x9) (o0 := o0) (x2 := i5_1) (x3 := i6_1) (x4 := x2) h_q0_1 (hB I_1) (by omega) (by omega) I_1.start) rfl (Nat.le_of_ble_eq_true rfl) (Nat.le_of_ble_eq_true rfl) (Nat.le_of_ble_eq_true rfl) (hst := rfl) (fun b6r M7 n8 b6 => ?_)
            obtain ⟨T9, J10, v13, rfl, b14, b15, f16⟩ := b6
            have I11 := I_1.call J10 (tm_sub (by decide)) (Or.inl rfl)
            have t17 := J10.up h_q0_1
            have := mz_hi v13
            refine mv_if_eqZ (tgt := 65) (a := v13.toInt) d_Reader_indexIn_59 (by decide) rfl (fun b18 => ?_) (fun b18 => ?_)
            · refine mv_iinc (v := (i4_1 + 1)) (lv' := [(4, .int (i4_1 + 1)), (6, .int i6_1), (5, .int i5_1), (0, .ref o0), (1, .ref 11), (2, .int x2), (3, .int x3)]) d_Reader_indexIn_65 rfl rfl (by decide) rfl ?_
              refine mv_iload d_Reader_indexIn_68 rfl ?_
              refine mv_iconst (v := 1) d_Reader_indexIn_70 (by decide) ?_
              refine mv_iadd d_Reader_indexIn_71 ?_
              refine mv_istore (lv' := [(5, .int (i6_1 + 1)), (4, .int (i4_1 + 1)), (6, .int i6_1), (0, .ref o0), (1, .ref 11), (2, .int x2), (3, .int x3)]) d_Reader_indexIn_72 (by decide) rfl ?_
              refine mv_iinc (v := (i6_1 + 1)) (lv' := [(6, .int (i6_1 + 1)), (5, .int (i6_1 + 1)), (4, .int (i4_1 + 1)), (0, .ref o0), (1, .ref 11), (2, .int x2), (3, .int x3)]) d_Reader_indexIn_74 rfl rfl (by decide) rfl ?_
              refine mv_goto (tgt := 9) d_Reader_indexIn_77 (by decide) ?_
              have : (i4_1 + 1 : Int32).toInt = i4_1.toInt + 1 := mz_addn 1 1 (by decide) (by omega) (by omega)
              have : (i6_1 + 1 : Int32).toInt = i6_1.toInt + 1 := mz_addn 1 1 (by decide) (by omega) (by omega)
              have : (i6_1 + 1 : Int32).toInt = i6_1.toInt + 1 := mz_addn 1 1 (by decide) (by omega) (by omega)
              have b19 : (i6_1 + 1).toInt = i6_1.toInt + 1 := mz_addn 1 1 (by decide) (by have := mz_lo i6_1; omega) (by have := mz_hi i6_1; omega)
              exact (ih1 (i6_1 + 1) (i6_1 + 1) (i4_1 + 1) T9 M7 n8 I11 t17 (by first | omega | decide) (by first | omega | decide) (by first | omega | decide) (by first | omega | decide) (by first | omega | decide) (by first | omega | decide) (by have e9 := iv6_1; rw [show (95 - i6_1.toInt).toNat = (95 - (i6_1.toInt + 1)).toNat + 1 from by omega] at e9; have e8 := p_lx_not (b := pb) (C := p_C 1) (L := 94) (s := x2.toInt.toNat) (e := x3.toInt.toNat) (f := (95 - (i6_1.toInt + 1)).toNat) (i := (i6_1.toInt).toNat) (p := (i5_1.toInt).toNat) (x := i4_1.toInt) (by omega) (by intro h9; have h8 := h9.2; rw [show (i6_1.toInt).toNat - (i5_1.toInt).toNat = (i6_1.toInt - i5_1.toInt).toNat from by omega] at h8; have h7 := f16; rw [show (x2.toInt + i5_1.toInt - i5_1.toInt).toNat = x2.toInt.toNat from by omega, if_pos h8] at h7; omega); rw [e8] at e9; rw [show (95 - (i6_1.toInt + 1)).toNat = (95 - (i6_1 + 1).toInt).toNat from by omega, show (i6_1.toInt).toNat + 1 = ((i6_1 + 1).toInt).toNat from by omega] at e9; rw [show (i4_1 + 1).toInt = i4_1.toInt + 1 from by omega]; exact e9) (by omega))
            · refine mv_iload d_Reader_indexIn_62 rfl ?_
              exact mv_iret d_Reader_indexIn_64 rfl (by first | rfl | decide) ⟨_, I11, _, rfl, (by have e9 := iv6_1; rw [show (95 - i6_1.toInt).toNat = (95 - (i6_1.toInt + 1)).toNat + 1 from by omega] at e9; have e8 := p_lx_yes (b := pb) (C := p_C 1) (L := 94) (s := x2.toInt.toNat) (e := x3.toInt.toNat) (f := (95 - (i6_1.toInt + 1)).toNat) (i := (i6_1.toInt).toNat) (p := (i5_1.toInt).toNat) (x := i4_1.toInt) (by omega) (by omega) (by have h7 := f16; rw [show (x2.toInt + i5_1.toInt - i5_1.toInt).toNat = x2.toInt.toNat from by omega] at h7; rw [show (i6_1.toInt).toNat - (i5_1.toInt).toNat = (i6_1.toInt - i5_1.toInt).toNat from by omega]; exact Classical.byContradiction (fun h6 => by rw [if_neg h6] at h7; omega)); rw [e8] at e9; exact e9)⟩
        · refine mv_aload_n d_Reader_indexIn_27 rfl rfl ?_
          refine mv_iload d_Reader_indexIn_28 rfl ?_
          obtain ⟨v20, e21⟩ : ∃ v9 : Int32, mj_ch 1 i6_1.toNatClampNeg = v9 := ⟨_, rfl⟩
          refine mv_schC (i := 1) (v := v20) d_Reader_indexIn_30 lV_Reader_277 (by decide) rfl (by omega) (by show _ < ((94 : Nat) : Int); omega) (Nat.le_of_ble_eq_true rfl) e21 ?_
          have : v20.toInt = p_C 1 (i6_1.toInt).toNat := by rw [← e21]; show (mj_ch 1 _).toInt = (mj_ch 1 _).toInt; rw [show i6_1.toNatClampNeg = (i6_1.toInt).toNat from by have := mz_nat9 (i := i6_1) (by omega); omega]
          refine mv_bipush (v := 32) d_Reader_indexIn_33 (by decide) ?_
          have := mz_hi v20
          refine mv_icmp_neZ (tgt := 74) (a := v20.toInt) (b := 32) d_Reader_indexIn_35 (by decide) rfl (by decide) (fun b22 => ?_) (fun b22 => ?_)
          · refine mv_iinc (v := (i6_1 + 1)) (lv' := [(6, .int (i6_1 + 1)), (5, .int i5_1), (4, .int i4_1), (0, .ref o0), (1, .ref 11), (2, .int x2), (3, .int x3)]) d_Reader_indexIn_74 rfl rfl (by decide) rfl ?_
            refine mv_goto (tgt := 9) d_Reader_indexIn_77 (by decide) ?_
            have : (i6_1 + 1 : Int32).toInt = i6_1.toInt + 1 := mz_addn 1 1 (by decide) (by omega) (by omega)
            have b23 : (i6_1 + 1).toInt = i6_1.toInt + 1 := mz_addn 1 1 (by decide) (by have := mz_lo i6_1; omega) (by have := mz_hi i6_1; omega)
            exact (ih1 (i6_1 + 1) i5_1 i4_1 T_1 M_1 n_1 I_1 h_q0_1 (by first | omega | decide) (by first | omega | decide) (by first | omega | decide) (by first | omega | decide) (by first | omega | decide) (by first | omega | decide) (by have e9 := iv6_1; rw [show (95 - i6_1.toInt).toNat = (95 - (i6_1.toInt + 1)).toNat + 1 from by omega] at e9; have e8 := p_lx_no (b := pb) (C := p_C 1) (L := 94) (s := x2.toInt.toNat) (e := x3.toInt.toNat) (f := (95 - (i6_1.toInt + 1)).toNat) (i := (i6_1.toInt).toNat) (p := (i5_1.toInt).toNat) (x := i4_1.toInt) (by intro h9; omega); rw [e8] at e9; rw [show (95 - (i6_1.toInt + 1)).toNat = (95 - (i6_1 + 1).toInt).toNat from by omega, show (i6_1.toInt).toNat + 1 = ((i6_1 + 1).toInt).toNat from by omega] at e9; exact e9) (by omega))
          · refine mv_iload d_Reader_indexIn_38 rfl ?_
            refine mv_iload d_Reader_indexIn_40 rfl ?_
            refine mv_isub d_Reader_indexIn_42 ?_
            refine mv_iload_n d_Reader_indexIn_43 rfl rfl ?_
            refine mv_iload_n d_Reader_indexIn_44 rfl rfl ?_
            refine mv_isub d_Reader_indexIn_45 ?_
            have : ((i6_1 - i5_1) : Int32).toInt = i6_1.toInt - i5_1.toInt := mz_sub2 rfl rfl (by omega) (by omega)
            have : ((x3 - x2) : Int32).toInt = x3.toInt - x2.toInt := mz_sub2 rfl rfl (by omega) (by omega)
            have := mz_hi (i6_1 - i5_1)
            have := mz_hi (x3 - x2)
            refine mv_icmp_neZ (tgt := 65) (a := (i6_1 - i5_1).toInt) (b := (x3 - x2).toInt) d_Reader_indexIn_46 (by decide) rfl rfl (fun b24 => ?_) (fun b24 => ?_)
            · refine mv_iinc (v := (i4_1 + 1)) (lv' := [(4, .int (i4_1 + 1)), (6, .int i6_1), (5, .int i5_1), (0, .ref o0), (1, .ref 11), (2, .int x2), (3, .int x3)]) d_Reader_indexIn_65 rfl rfl (by decide) rfl ?_
              refine mv_iload d_Reader_indexIn_68 rfl ?_
              refine mv_iconst (v := 1) d_Reader_indexIn_70 (by decide) ?_
              refine mv_iadd d_Reader_indexIn_71 ?_
              refine mv_istore (lv' := [(5, .int (i6_1 + 1)), (4, .int (i4_1 + 1)), (6, .int i6_1), (0, .ref o0), (1, .ref 11), (2, .int x2), (3, .int x3)]) d_Reader_indexIn_72 (by decide) rfl ?_
              refine mv_iinc (v := (i6_1 + 1)) (lv' := [(6, .int (i6_1 + 1)), (5, .int (i6_1 + 1)), (4, .int (i4_1 + 1)), (0, .ref o0), (1, .ref 11), (2, .int x2), (3, .int x3)]) d_Reader_indexIn_74 rfl rfl (by decide) rfl ?_
              refine mv_goto (tgt := 9) d_Reader_indexIn_77 (by decide) ?_
              have : (i4_1 + 1 : Int32).toInt = i4_1.toInt + 1 := mz_addn 1 1 (by decide) (by omega) (by omega)
              have : (i6_1 + 1 : Int32).toInt = i6_1.toInt + 1 := mz_addn 1 1 (by decide) (by omega) (by omega)
              have : (i6_1 + 1 : Int32).toInt = i6_1.toInt + 1 := mz_addn 1 1 (by decide) (by omega) (by omega)
              have b25 : (i6_1 + 1).toInt = i6_1.toInt + 1 := mz_addn 1 1 (by decide) (by have := mz_lo i6_1; omega) (by have := mz_hi i6_1; omega)
              exact (ih1 (i6_1 + 1) (i6_1 + 1) (i4_1 + 1) T_1 M_1 n_1 I_1 h_q0_1 (by first | omega | decide) (by first | omega | decide) (by first | omega | decide) (by first | omega | decide) (by first | omega | decide) (by first | omega | decide) (by have e9 := iv6_1; rw [show (95 - i6_1.toInt).toNat = (95 - (i6_1.toInt + 1)).toNat + 1 from by omega] at e9; have e8 := p_lx_not (b := pb) (C := p_C 1) (L := 94) (s := x2.toInt.toNat) (e := x3.toInt.toNat) (f := (95 - (i6_1.toInt + 1)).toNat) (i := (i6_1.toInt).toNat) (p := (i5_1.toInt).toNat) (x := i4_1.toInt) (by omega) (by intro h9; omega); rw [e8] at e9; rw [show (95 - (i6_1.toInt + 1)).toNat = (95 - (i6_1 + 1).toInt).toNat from by omega, show (i6_1.toInt).toNat + 1 = ((i6_1 + 1).toInt).toNat from by omega] at e9; rw [show (i4_1 + 1).toInt = i4_1.toInt + 1 from by omega]; exact e9) (by omega))
            · refine mv_aload_n d_Reader_indexIn_49 rfl rfl ?_
              refine mv_aload_n d_Reader_indexIn_50 rfl rfl ?_
              refine mv_iload d_Reader_indexIn_51 rfl ?_
              refine mv_iload d_Reader_indexIn_53 rfl ?_
              refine mv_iload_n d_Reader_indexIn_55 rfl rfl ?_
              obtain ⟨_, b32, -⟩ := I_1.1 _ _ h_q0_1
              refine mv_callV (kc' := 0) (ks' := 0) (As := [.ref 11, .int i5_1, .int i6_1, .int x2]) (st9 := [.int x2, .int i6_1, .int i5_1, .ref 11, .ref o0]) d_Reader_indexIn_56 lV_Reader_281 b32 rfl (tc_Reader_matches_s1_11_x (d := d) (x9 := x9) (o0 := o0) (x2 := i5_1) (x3 := i6_1) (x4 := x2) h_q0_1 (hB I_1) (by omega) (by omega) I_1.start) rfl (Nat.le_of_ble_eq_true rfl) (Nat.le_of_ble_eq_true rfl) (Nat.le_of_ble_eq_true rfl) (hst := rfl) (fun b26r M27 n28 b26 => ?_)
              obtain ⟨T29, J30, v33, rfl, b34, b35, f36⟩ := b26
              have I31 := I_1.call J30 (tm_sub (by decide)) (Or.inl rfl)
              have t37 := J30.up h_q0_1
              have := mz_hi v33
              refine mv_if_eqZ (tgt := 65) (a := v33.toInt) d_Reader_indexIn_59 (by decide) rfl (fun b38 => ?_) (fun b38 => ?_)
              · refine mv_iinc (v := (i4_1 + 1)) (lv' := [(4, .int (i4_1 + 1)), (6, .int i6_1), (5, .int i5_1), (0, .ref o0), (1, .ref 11), (2, .int x2), (3, .int x3)]) d_Reader_indexIn_65 rfl rfl (by decide) rfl ?_
                refine mv_iload d_Reader_indexIn_68 rfl ?_
                refine mv_iconst (v := 1) d_Reader_indexIn_70 (by decide) ?_
                refine mv_iadd d_Reader_indexIn_71 ?_
                refine mv_istore (lv' := [(5, .int (i6_1 + 1)), (4, .int (i4_1 + 1)), (6, .int i6_1), (0, .ref o0), (1, .ref 11), (2, .int x2), (3, .int x3)]) d_Reader_indexIn_72 (by decide) rfl ?_
                refine mv_iinc (v := (i6_1 + 1)) (lv' := [(6, .int (i6_1 + 1)), (5, .int (i6_1 + 1)), (4, .int (i4_1 + 1)), (0, .ref o0), (1, .ref 11), (2, .int x2), (3, .int x3)]) d_Reader_indexIn_74 rfl rfl (by decide) rfl ?_
                refine mv_goto (tgt := 9) d_Reader_indexIn_77 (by decide) ?_
                have : (i4_1 + 1 : Int32).toInt = i4_1.toInt + 1 := mz_addn 1 1 (by decide) (by omega) (by omega)
                have : (i6_1 + 1 : Int32).toInt = i6_1.toInt + 1 := mz_addn 1 1 (by decide) (by omega) (by omega)
                have : (i6_1 + 1 : Int32).toInt = i6_1.toInt + 1 := mz_addn 1 1 (by decide) (by omega) (by omega)
                have b39 : (i6_1 + 1).toInt = i6_1.toInt + 1 := mz_addn 1 1 (by decide) (by have := mz_lo i6_1; omega) (by have := mz_hi i6_1; omega)
                exact (ih1 (i6_1 + 1) (i6_1 + 1) (i4_1 + 1) T29 M27 n28 I31 t37 (by first | omega | decide) (by first | omega | decide) (by first | omega | decide) (by first | omega | decide) (by first | omega | decide) (by first | omega | decide) (by have e9 := iv6_1; rw [show (95 - i6_1.toInt).toNat = (95 - (i6_1.toInt + 1)).toNat + 1 from by omega] at e9; have e8 := p_lx_not (b := pb) (C := p_C 1) (L := 94) (s := x2.toInt.toNat) (e := x3.toInt.toNat) (f := (95 - (i6_1.toInt + 1)).toNat) (i := (i6_1.toInt).toNat) (p := (i5_1.toInt).toNat) (x := i4_1.toInt) (by omega) (by intro h9; have h8 := h9.2; rw [show (i6_1.toInt).toNat - (i5_1.toInt).toNat = (i6_1.toInt - i5_1.toInt).toNat from by omega] at h8; have h7 := f36; rw [show (x2.toInt + i5_1.toInt - i5_1.toInt).toNat = x2.toInt.toNat from by omega, if_pos h8] at h7; omega); rw [e8] at e9; rw [show (95 - (i6_1.toInt + 1)).toNat = (95 - (i6_1 + 1).toInt).toNat from by omega, show (i6_1.toInt).toNat + 1 = ((i6_1 + 1).toInt).toNat from by omega] at e9; rw [show (i4_1 + 1).toInt = i4_1.toInt + 1 from by omega]; exact e9) (by omega))
              · refine mv_iload d_Reader_indexIn_62 rfl ?_
                exact mv_iret d_Reader_indexIn_64 rfl (by first | rfl | decide) ⟨_, I31, _, rfl, (by have e9 := iv6_1; rw [show (95 - i6_1.toInt).toNat = (95 - (i6_1.toInt + 1)).toNat + 1 from by omega] at e9; have e8 := p_lx_yes (b := pb) (C := p_C 1) (L := 94) (s := x2.toInt.toNat) (e := x3.toInt.toNat) (f := (95 - (i6_1.toInt + 1)).toNat) (i := (i6_1.toInt).toNat) (p := (i5_1.toInt).toNat) (x := i4_1.toInt) (by omega) (by omega) (by have h7 := f36; rw [show (x2.toInt + i5_1.toInt - i5_1.toInt).toNat = x2.toInt.toNat from by omega] at h7; rw [show (i6_1.toInt).toNat - (i5_1.toInt).toNat = (i6_1.toInt - i5_1.toInt).toNat from by omega]; exact Classical.byContradiction (fun h6 => by rw [if_neg h6] at h7; omega)); rw [e8] at e9; exact e9)⟩
  exact mv_less (Nat.zero_le _) (Nat.zero_le _) (L9_1 4294967296 0 0 0 T0 M0 n0 I0 h_o0 (by first | omega | decide) (by first | omega | decide) (by first | omega | decide) (by first | omega | decide) (by first | omega | decide) (by first | omega | decide) (by rw [show (0 : Int32).toInt = 0 from by decide]; rfl) (by show (2147483647 - (0 : Int) : Int) < _; decide))
def w_Reader_wordValue_x : List Nat := []
set_option maxHeartbeats 100000000 in theorem tc_Reader_wordValue_x {g : mj_G} {l : Launch} {d : Nat} {T0 : tm_H} {M0 : mj_M} {n0 x9 : Nat} {o0 : Nat} {x1 : Int32} {x2 : Int32} (h_o0 : T0 o0 = some (0, 9, 0)) {pb : Nat → Int} {pn : Nat} (yB : qB M0 o0 pb pn) (yh : 0 ≤ x1.toInt ∧ x1.toInt ≤ x2.toInt ∧ x2.toInt ≤ (pn : Int)) (I0 : tm_I tm_FT (tm_in w_Reader_wordValue_x) x9 T0 M0 n0 T0 M0 n0) : mj_Met g l kY_Reader_wordValue (d + 6) [.ref o0, .int x1, .int x2] M0 n0 0 0 (tm_Q tm_FT (tm_in w_Reader_wordValue_x) x9 T0 M0 n0 (fun r _ M => ∃ v : Int32, r = some (.int v) ∧ (v.toInt = p_ix pb x1.toInt.toNat x2.toInt.toNat p_ws 0))) := by
  refine mj_enter (by decide) (Nat.le_of_ble_eq_true rfl) ?_
  have hB : ∀ {T : tm_H} {M : mj_M} {n : Nat}, tm_I tm_FT (tm_in w_Reader_wordValue_x) x9 T0 M0 n0 T M n → qB M o0 pb pn := fun I => yB.keep I0.1 I h_o0 (by decide +kernel) (by decide +kernel) (by decide +kernel)
  have := yB.1
  have := yB.2.1
  refine mv_aload_n d_Reader_wordValue_0 rfl rfl ?_
  refine mv_ldcSw (id := 10) (tx := "poor maids boys sick bread coal rent lake income coin living dead marks") d_Reader_wordValue_1 (List.mem_of_getElem? (i := 0) rfl) ?_
  refine mv_iload_n d_Reader_wordValue_4 rfl rfl ?_
  refine mv_iload_n d_Reader_wordValue_5 rfl rfl ?_
  obtain ⟨_, b7, -⟩ := I0.1 _ _ h_o0
  refine mv_callV (kc' := 0) (ks' := 0) (As := [.ref 10, .int x1, .int x2]) (st9 := [.int x2, .int x1, .ref 10, .ref o0]) d_Reader_wordValue_6 lV_Reader_266 b7 rfl (tc_Reader_indexIn_s1_10_x (d := d) (x9 := x9) (o0 := o0) (x2 := x1) (x3 := x2) h_o0 (hB I0) (by omega) I0.start) rfl (Nat.le_of_ble_eq_true rfl) (Nat.le_of_ble_eq_true rfl) (Nat.le_of_ble_eq_true rfl) (hst := rfl) (fun b1r M2 n3 b1 => ?_)
  obtain ⟨T4, J5, v8, rfl, f9⟩ := b1
  have I6 := I0.call J5 (tm_sub (by decide)) (Or.inl rfl)
  have t10 := J5.up h_o0
  have h9f9 := p_ix_ge (b := pb) (s := x1.toInt.toNat) (e := x2.toInt.toNat) (p_ws.take 13) 0
  rw [← p_lx_0 (show x1.toInt.toNat ≤ x2.toInt.toNat by omega), show (p_ws.take 13).length = 13 from by decide] at h9f9
  refine mv_istore_n (lv' := [(3, .int v8), (0, .ref o0), (1, .int x1), (2, .int x2)]) d_Reader_wordValue_9 rfl (by decide) rfl ?_
  refine mv_iload_n d_Reader_wordValue_10 rfl rfl ?_
  refine mv_iconst (v := (-1)) d_Reader_wordValue_11 (by decide) ?_
  have := mz_hi v8
  refine mv_icmp_eqZ (tgt := 17) (a := v8.toInt) (b := (-1)) d_Reader_wordValue_12 (by decide) rfl (by decide) (fun b11 => ?_) (fun b11 => ?_)
  · refine mv_aload_n d_Reader_wordValue_17 rfl rfl ?_
    refine mv_ldcSw (id := 11) (tx := "fail keep days late gain sell near join sale strike bar mark trust end pays if part not and or") d_Reader_wordValue_18 (List.mem_of_getElem? (i := 1) rfl) ?_
    refine mv_iload_n d_Reader_wordValue_21 rfl rfl ?_
    refine mv_iload_n d_Reader_wordValue_22 rfl rfl ?_
    obtain ⟨_, b18, -⟩ := I6.1 _ _ t10
    refine mv_callV (kc' := 0) (ks' := 0) (As := [.ref 11, .int x1, .int x2]) (st9 := [.int x2, .int x1, .ref 11, .ref o0]) d_Reader_wordValue_23 lV_Reader_266 b18 rfl (tc_Reader_indexIn_s1_11_x (d := d) (x9 := x9) (o0 := o0) (x2 := x1) (x3 := x2) t10 (hB I6) (by omega) I6.start) rfl (Nat.le_of_ble_eq_true rfl) (Nat.le_of_ble_eq_true rfl) (Nat.le_of_ble_eq_true rfl) (hst := rfl) (fun b12r M13 n14 b12 => ?_)
    obtain ⟨T15, J16, v19, rfl, f20⟩ := b12
    have I17 := I6.call J16 (tm_sub (by decide)) (Or.inl rfl)
    have t21 := J16.up t10
    have h9f20 := p_ix_ge (b := pb) (s := x1.toInt.toNat) (e := x2.toInt.toNat) (p_ws.drop 13) 0
    rw [← p_lx_1 (show x1.toInt.toNat ≤ x2.toInt.toNat by omega), show (p_ws.drop 13).length = 20 from by decide] at h9f20
    have : (13 + v19 : Int32).toInt = 13 + v19.toInt := mz_add2 (by decide) rfl (by omega) (by omega)
    refine mv_istore (lv' := [(4, .int v19), (3, .int v8), (0, .ref o0), (1, .int x1), (2, .int x2)]) d_Reader_wordValue_26 (by decide) rfl ?_
    refine mv_iload d_Reader_wordValue_28 rfl ?_
    refine mv_iconst (v := (-1)) d_Reader_wordValue_30 (by decide) ?_
    have := mz_hi v19
    refine mv_icmp_neZ (tgt := 38) (a := v19.toInt) (b := (-1)) d_Reader_wordValue_31 (by decide) rfl (by decide) (fun b22 => ?_) (fun b22 => ?_)
    · refine mv_bipush (v := 13) d_Reader_wordValue_38 (by decide) ?_
      refine mv_iload d_Reader_wordValue_40 rfl ?_
      refine mv_iadd d_Reader_wordValue_42 ?_
      exact mv_iret d_Reader_wordValue_43 rfl (by first | rfl | decide) ⟨_, I17, _, rfl, (by have h0 := f9; have h1 := f20; rw [p_lx_0 (show x1.toInt.toNat ≤ x2.toInt.toNat by omega)] at h0; rw [p_lx_1 (show x1.toInt.toNat ≤ x2.toInt.toNat by omega)] at h1; rw [p_ix_two, if_pos (by omega)]; first | (rw [if_pos (by omega)]; omega) | (rw [if_neg (by omega)]; omega))⟩
    · refine mv_iconst (v := (-1)) d_Reader_wordValue_34 (by decide) ?_
      refine mv_goto (tgt := 43) d_Reader_wordValue_35 (by decide) ?_
      exact mv_iret d_Reader_wordValue_43 rfl (by first | rfl | decide) ⟨_, I17, _, rfl, (by have e9_ : ((-1) : Int32).toInt = (-1) := (by decide); have h0 := f9; have h1 := f20; rw [p_lx_0 (show x1.toInt.toNat ≤ x2.toInt.toNat by omega)] at h0; rw [p_lx_1 (show x1.toInt.toNat ≤ x2.toInt.toNat by omega)] at h1; rw [p_ix_two, if_pos (by omega)]; first | (rw [if_pos (by omega)]; omega) | (rw [if_neg (by omega)]; omega))⟩
  · refine mv_iload_n d_Reader_wordValue_15 rfl rfl ?_
    exact mv_iret d_Reader_wordValue_16 rfl (by first | rfl | decide) ⟨_, I6, _, rfl, (by have h0 := f9; rw [p_lx_0 (show x1.toInt.toNat ≤ x2.toInt.toNat by omega)] at h0; rw [p_ix_two, if_neg (by omega)]; omega)⟩
def w_Reader_numberValue_x : List Nat := []
set_option maxHeartbeats 100000000 in theorem tc_Reader_numberValue_x {g : mj_G} {l : Launch} {d : Nat} {T0 : tm_H} {M0 : mj_M} {n0 x9 : Nat} {o0 : Nat} {x1 : Int32} {x2 : Int32} (h_o0 : T0 o0 = some (0, 9, 0)) {pb : Nat → Int} {pn : Nat} (yB : qB M0 o0 pb pn) (yh : 0 ≤ x1.toInt ∧ x1.toInt ≤ x2.toInt ∧ x2.toInt ≤ (pn : Int)) (yd : ∀ i : Nat, x1.toInt ≤ (i : Int) → (i : Int) < x2.toInt → 48 ≤ pb i ∧ pb i ≤ 57) (I0 : tm_I tm_FT (tm_in w_Reader_numberValue_x) x9 T0 M0 n0 T0 M0 n0) : mj_Met g l kY_Reader_numberValue (d + 1) [.ref o0, .int x1, .int x2] M0 n0 0 0 (tm_Q tm_FT (tm_in w_Reader_numberValue_x) x9 T0 M0 n0 (fun r _ M => ∃ v : Int32, r = some (.int v) ∧ ((4 < x2.toInt - x1.toInt ∧ v.toInt = -1) ∨ (x2.toInt - x1.toInt ≤ 4 ∧ v.toInt = p_nu pb (x2.toInt - x1.toInt).toNat x1.toInt.toNat 0)))) := by
  refine mj_enter (by decide) (Nat.le_of_ble_eq_true rfl) ?_
  have hB : ∀ {T : tm_H} {M : mj_M} {n : Nat}, tm_I tm_FT (tm_in w_Reader_numberValue_x) x9 T0 M0 n0 T M n → qB M o0 pb pn := fun I => yB.keep I0.1 I h_o0 (by decide +kernel) (by decide +kernel) (by decide +kernel)
  have := yB.1
  have := yB.2.1
  refine mv_iload_n d_Reader_numberValue_0 rfl rfl ?_
  refine mv_iload_n d_Reader_numberValue_1 rfl rfl ?_
  have : (x2 - x1 : Int32).toInt = x2.toInt - x1.toInt := mz_sub2 rfl rfl (by omega) (by omega)
  refine mv_isub d_Reader_numberValue_2 ?_
  refine mv_iconst (v := 4) d_Reader_numberValue_3 (by decide) ?_
  have := mz_hi (x2 - x1)
  refine mv_icmp_leZ (tgt := 9) (a := (x2 - x1).toInt) (b := 4) d_Reader_numberValue_4 (by decide) rfl (by decide) (fun b1 => ?_) (fun b1 => ?_)
  · refine mv_iconst (v := 0) d_Reader_numberValue_9 (by decide) ?_
    refine mv_istore_n (lv' := [(3, .int 0), (0, .ref o0), (1, .int x1), (2, .int x2)]) d_Reader_numberValue_10 rfl (by decide) rfl ?_
    refine mv_iload_n d_Reader_numberValue_11 rfl rfl ?_
    refine mv_istore (lv' := [(4, .int x1), (3, .int 0), (0, .ref o0), (1, .int x1), (2, .int x2)]) d_Reader_numberValue_12 (by decide) rfl ?_
    have L14_2 : ∀ (k : Nat) (i4_2 : Int32) (i3_2 : Int32) (T_2 : tm_H) (M_2 : mj_M) (n_2 : Nat), tm_I tm_FT (tm_in w_Reader_numberValue_x) x9 T0 M0 n0 T_2 M_2 n_2 → T_2 o0 = some (0, 9, 0) → x1.toInt ≤ i4_2.toInt → i4_2.toInt ≤ x2.toInt → 0 ≤ i3_2.toInt → (i4_2.toInt - x1.toInt ≤ 0 → i3_2.toInt ≤ 0) → (i4_2.toInt - x1.toInt ≤ 1 → i3_2.toInt ≤ 9) → (i4_2.toInt - x1.toInt ≤ 2 → i3_2.toInt ≤ 99) → (i4_2.toInt - x1.toInt ≤ 3 → i3_2.toInt ≤ 999) → (i4_2.toInt - x1.toInt ≤ 4 → i3_2.toInt ≤ 9999) → i3_2.toInt = p_nu pb (i4_2.toInt - x1.toInt).toNat x1.toInt.toNat 0 → 2147483647 - i4_2.toInt < (k : Int) → mj_V g l kY_Reader_numberValue (d + 1) 14 [(4, .int i4_2), (3, .int i3_2), (0, .ref o0), (1, .int x1), (2, .int x2)] [] M_2 n_2 0 0 (tm_Q tm_FT (tm_in w_Reader_numberValue_x) x9 T0 M0 n0 (fun r _ M => ∃ v : Int32, r = some (.int v) ∧ ((4 < x2.toInt - x1.toInt ∧ v.toInt = -1) ∨ (x2.toInt - x1.toInt ≤ 4 ∧ v.toInt = p_nu pb (x2.toInt - x1.toInt).toNat x1.toInt.toNat 0)))) := by
      intro k2
      induction k2 with
      | zero =>
        intro i4_2 i3_2 T_2 M_2 n_2 I_2 h_q0_2 iv0_2 iv1_2 iv2_2 iv3_2 iv4_2 iv5_2 iv6_2 iv7_2 iv8_2 hk2
        have := mz_hi i4_2
        omega
      | succ k2 ih2 =>
        intro i4_2 i3_2 T_2 M_2 n_2 I_2 h_q0_2 iv0_2 iv1_2 iv2_2 iv3_2 iv4_2 iv5_2 iv6_2 iv7_2 iv8_2 hk2
        refine mv_iload d_Reader_numberValue_14 rfl ?_
        refine mv_iload_n d_Reader_numberValue_16 rfl rfl ?_
        have := mz_hi i4_2
        have := mz_hi x2
        refine mv_icmp_geZ (tgt := 41) (a := i4_2.toInt) (b := x2.toInt) d_Reader_numberValue_17 (by decide) rfl rfl (fun b3 => ?_) (fun b3 => ?_)
        · refine mv_iload_n d_Reader_numberValue_41 rfl rfl ?_
          exact mv_iret d_Reader_numberValue_42 rfl (by first | rfl | decide) ⟨_, I_2, _, rfl, (Or.inr ⟨by omega, by have e9 := iv8_2; rw [show (i4_2.toInt - x1.toInt).toNat = (x2.toInt - x1.toInt).toNat from by omega] at e9; exact e9⟩)⟩
        · refine mv_iload_n d_Reader_numberValue_20 rfl rfl ?_
          refine mv_bipush (v := 10) d_Reader_numberValue_21 (by decide) ?_
          refine mv_imul d_Reader_numberValue_23 ?_
          refine mv_aload_n d_Reader_numberValue_24 rfl rfl ?_
          refine mv_iload d_Reader_numberValue_25 rfl ?_
          obtain ⟨_, b4, -⟩ := I_2.1 _ _ h_q0_2
          refine mv_callV (kc1 := 0) (ks1 := 0) (kc' := 0) (ks' := 0) (As := [.int i4_2]) (st9 := [.int i4_2, .ref o0, .int (i3_2 * 10)]) d_Reader_numberValue_27 lV_Reader_261 b4 rfl (mj_enter (by decide) (Nat.le_of_ble_eq_true rfl) ?_) rfl (Nat.le_of_ble_eq_true rfl) (Nat.le_of_ble_eq_true rfl) (Nat.le_of_ble_eq_true rfl) (hst := rfl) (fun _ _ _ h => h)
          refine mv_iload_n d_Reader_byteAt_0 rfl rfl ?_
          have := mz_hi i4_2
          refine mv_if_ltZ (tgt := 20) (a := i4_2.toInt) d_Reader_byteAt_1 (by decide) rfl (fun b5 => ?_) (fun b5 => ?_)
          · refine mv_iconst (v := 0) d_Reader_byteAt_20 (by decide) ?_
            refine mv_iret d_Reader_byteAt_21 rfl (by first | rfl | decide) ?_
            refine mv_iadd d_Reader_numberValue_30 ?_
            refine mv_bipush (v := 48) d_Reader_numberValue_31 (by decide) ?_
            exfalso
            omega
          · refine mv_iload_n d_Reader_byteAt_4 rfl rfl ?_
            refine mv_sipush (v := 400) d_Reader_byteAt_5 (by decide) ?_
            have := mz_hi i4_2
            refine mv_icmp_geZ (tgt := 20) (a := i4_2.toInt) (b := 400) d_Reader_byteAt_8 (by decide) rfl (by decide) (fun b6 => ?_) (fun b6 => ?_)
            · refine mv_iconst (v := 0) d_Reader_byteAt_20 (by decide) ?_
              refine mv_iret d_Reader_byteAt_21 rfl (by first | rfl | decide) ?_
              refine mv_iadd d_Reader_numberValue_30 ?_
              refine mv_bipush (v := 48) d_Reader_numberValue_31 (by decide) ?_
              exfalso
              omega
            · refine mv_aload_n d_Reader_byteAt_11 rfl rfl ?_
              obtain ⟨a8, q7, t_a8⟩ := tm_atR I_2 h_q0_2 (k := 3) rfl
              refine tr_getK q7 d_Reader_byteAt_12 f_Reader_15_9 ?_
              refine mv_iload_n d_Reader_byteAt_15 rfl rfl ?_
              refine tr_iald9 (o := o0) (k := 3) I_2 q7 t_a8 (by decide) d_Reader_byteAt_16 (vp_in_iff.mpr (by omega)) (fun v9 e10 => ?_)
              have : 0 ≤ i4_2.toInt → i4_2.toInt < (pn : Int) → v9.toInt = pb (i4_2.toInt).toNat := fun h8 h9 => by rw [e10, show i4_2.toNatClampNeg = (i4_2.toInt).toNat from by have := mz_nat9 (i := i4_2) h8; omega]; exact (hB I_2).2.2.2 _ (by omega)
              have := yd (i4_2.toInt).toNat (by omega) (by omega)
              refine mv_goto (tgt := 21) d_Reader_byteAt_17 (by decide) ?_
              refine mv_iret d_Reader_byteAt_21 rfl (by first | rfl | decide) ?_
              refine mv_iadd d_Reader_numberValue_30 ?_
              refine mv_bipush (v := 48) d_Reader_numberValue_31 (by decide) ?_
              have : (((i3_2 * 10) + v9) - 48 : Int32).toInt = i3_2.toInt * 10 + v9.toInt - 48 := mz_sub2 (mz_add2 (mz_mul2 rfl (by decide) (by omega) (by omega)) rfl (by omega) (by omega)) (by decide) (by omega) (by omega)
              refine mv_isub d_Reader_numberValue_33 ?_
              refine mv_istore_n (lv' := [(3, .int (((i3_2 * 10) + v9) - 48)), (4, .int i4_2), (0, .ref o0), (1, .int x1), (2, .int x2)]) d_Reader_numberValue_34 rfl (by decide) rfl ?_
              refine mv_iinc (v := (i4_2 + 1)) (lv' := [(4, .int (i4_2 + 1)), (3, .int (((i3_2 * 10) + v9) - 48)), (0, .ref o0), (1, .int x1), (2, .int x2)]) d_Reader_numberValue_35 rfl rfl (by decide) rfl ?_
              refine mv_goto (tgt := 14) d_Reader_numberValue_38 (by decide) ?_
              have : (i4_2 + 1 : Int32).toInt = i4_2.toInt + 1 := mz_addn 1 1 (by decide) (by omega) (by omega)
              have b11 : (i4_2 + 1).toInt = i4_2.toInt + 1 := mz_addn 1 1 (by decide) (by have := mz_lo i4_2; omega) (by have := mz_hi i4_2; omega)
              exact (ih2 (i4_2 + 1) (((i3_2 * 10) + v9) - 48) T_2 M_2 n_2 I_2 h_q0_2 (by first | omega | decide) (by first | omega | decide) (by first | omega | decide) (by first | omega | decide) (by first | omega | decide) (by first | omega | decide) (by first | omega | decide) (by first | omega | decide) (by have e9 := iv8_2; rw [show ((i4_2 + 1).toInt - x1.toInt).toNat = (i4_2.toInt - x1.toInt).toNat + 1 from by omega, p_nu_out, ← e9, show x1.toInt.toNat + (i4_2.toInt - x1.toInt).toNat = (i4_2.toInt).toNat from by omega]; omega) (by omega))
    have : (0 : Int32).toInt = 0 := by decide
    exact mv_less (Nat.zero_le _) (Nat.zero_le _) (L14_2 4294967296 x1 0 T0 M0 n0 I0 h_o0 (by first | omega | decide) (by first | omega | decide) (by first | omega | decide) (by first | omega | decide) (by first | omega | decide) (by first | omega | decide) (by first | omega | decide) (by first | omega | decide) (by rw [show (0 : Int32).toInt = 0 from by decide, show (x1.toInt - x1.toInt).toNat = 0 from by omega]; rfl) (by have := mz_lo x1; omega))
  · refine mv_iconst (v := (-1)) d_Reader_numberValue_7 (by decide) ?_
    exact mv_iret d_Reader_numberValue_8 rfl (by first | rfl | decide) ⟨_, I0, _, rfl, (Or.inl ⟨by omega, by decide⟩)⟩
def w_Reader_putToken_x : List Nat := [908, 954, 955, 956, 957]
set_option maxHeartbeats 100000000 in theorem tc_Reader_putToken_x {g : mj_G} {l : Launch} {d : Nat} {T0 : tm_H} {M0 : mj_M} {n0 x9 : Nat} {o0 : Nat} {x1 : Int32} {x2 : Int32} {x3 : Int32} (h_o0 : T0 o0 = some (0, 9, 0)) {pb : Nat → Int} {pn tc : Nat} (yB : qB M0 o0 pb pn) (yR : qR M0 o0 pb pn tc) (yt : p_st pb pn tc < pn) (y1 : x1.toInt = p_ki pb pn tc) (y2 : x2.toInt = (p_st pb pn tc : Int)) (y3 : x3.toInt = (p_sp pb pn tc : Int)) (I0 : tm_I tm_FT (tm_in w_Reader_putToken_x) x9 T0 M0 n0 T0 M0 n0) : mj_Met g l kY_Reader_putToken (d + 7) [.ref o0, .int x1, .int x2, .int x3] M0 n0 0 0 (tm_Q tm_FT (tm_in w_Reader_putToken_x) x9 T0 M0 n0 (fun r _ M => r = none ∧ (qR M o0 pb pn (tc + 1)))) := by
  refine mj_enter (by decide) (Nat.le_of_ble_eq_true rfl) ?_
  have hB : ∀ {T : tm_H} {M : mj_M} {n : Nat}, tm_I tm_FT (tm_in w_Reader_putToken_x) x9 T0 M0 n0 T M n → qB M o0 pb pn := fun I => yB.keep I0.1 I h_o0 (by decide +kernel) (by decide +kernel) (by decide +kernel)
  have := yB.1
  have := yB.2.1
  have := yR.1
  have := yR.2.1
  have := p_tp_k tc yt
  have hsp8 := (p_sp_gt yt).1
  have := p_tp_le (b := pb) (n := pn) (tc + 1)
  have hsp9 : p_sp pb pn tc = p_tp pb pn (tc + 1) := rfl
  have hki := p_ki_in yt
  refine mv_aload_n d_Reader_putToken_0 rfl rfl ?_
  obtain ⟨v2, q1⟩ := tm_atI I0 h_o0 (k := 8) rfl
  refine tr_getK q1 d_Reader_putToken_1 f_Reader_244_9 ?_
  have := tm_rv q1
  refine mv_istore (lv' := [(4, .int v2), (0, .ref o0), (1, .int x1), (2, .int x2), (3, .int x3)]) d_Reader_putToken_4 (by decide) rfl ?_
  refine mv_iload d_Reader_putToken_6 rfl ?_
  have := mz_hi v2
  refine mv_if_ltZ (tgt := 19) (a := v2.toInt) d_Reader_putToken_8 (by decide) rfl (fun b3 => ?_) (fun b3 => ?_)
  · exact mv_vret d_Reader_putToken_19 rfl ⟨_, I0, rfl, (by exfalso; omega)⟩
  · refine mv_iload d_Reader_putToken_11 rfl ?_
    refine mv_sipush (v := 400) d_Reader_putToken_13 (by decide) ?_
    have := mz_hi v2
    refine mv_icmp_ltZ (tgt := 20) (a := v2.toInt) (b := 400) d_Reader_putToken_16 (by decide) rfl (by decide) (fun b4 => ?_) (fun b4 => ?_)
    · refine mv_aload_n d_Reader_putToken_20 rfl rfl ?_
      obtain ⟨a6, q5, t_a6⟩ := tm_atR I0 h_o0 (k := 4) rfl
      refine tr_getK q5 d_Reader_putToken_21 f_Reader_19_9 ?_
      refine mv_iload d_Reader_putToken_24 rfl ?_
      refine mv_iload_n d_Reader_putToken_26 rfl rfl ?_
      refine tr_iast9 (o := o0) (k := 4) I0 (I0.up h_o0) rfl q5 t_a6 (by decide) (Or.inl (by decide)) d_Reader_putToken_27 (vp_in_iff.mpr (by omega)) (fun M7 I8 K9 E10 A11 => ?_)
      have R12 : ∀ j, ra M7 o0 4 j = if j = v2.toNatClampNeg then x1.toInt else ra M0 o0 4 j := fun j => E10 j
      have R13 : ∀ j, ra M7 o0 5 j = ra M0 o0 5 j := fun j => A11 5 rfl (by decide) j
      have R14 : ∀ j, ra M7 o0 6 j = ra M0 o0 6 j := fun j => A11 6 rfl (by decide) j
      have R15 : ∀ j, ra M7 o0 7 j = ra M0 o0 7 j := fun j => A11 7 rfl (by decide) j
      refine mv_aload_n d_Reader_putToken_28 rfl rfl ?_
      obtain ⟨a17, q16, t_a17⟩ := tm_atR I8 h_o0 (k := 5) rfl
      refine tr_getK q16 d_Reader_putToken_29 f_Reader_22_9 ?_
      refine mv_iload d_Reader_putToken_32 rfl ?_
      refine mv_iload_n d_Reader_putToken_34 rfl rfl ?_
      refine tr_iast9 (o := o0) (k := 5) I8 (I8.up h_o0) rfl q16 t_a17 (by decide) (Or.inl (by decide)) d_Reader_putToken_35 (vp_in_iff.mpr (by omega)) (fun M18 I19 K20 E21 A22 => ?_)
      have R23 : ∀ j, ra M18 o0 4 j = if j = v2.toNatClampNeg then x1.toInt else ra M0 o0 4 j := fun j => (A22 4 rfl (by decide) j).trans (R12 j)
      have R24 : ∀ j, ra M18 o0 5 j = if j = v2.toNatClampNeg then x2.toInt else ra M0 o0 5 j := fun j => (E21 j).trans (by rw [R13 j])
      have R25 : ∀ j, ra M18 o0 6 j = ra M0 o0 6 j := fun j => (A22 6 rfl (by decide) j).trans (R14 j)
      have R26 : ∀ j, ra M18 o0 7 j = ra M0 o0 7 j := fun j => (A22 7 rfl (by decide) j).trans (R15 j)
      refine mv_aload_n d_Reader_putToken_36 rfl rfl ?_
      obtain ⟨a28, q27, t_a28⟩ := tm_atR I19 h_o0 (k := 6) rfl
      refine tr_getK q27 d_Reader_putToken_37 f_Reader_25_9 ?_
      refine mv_iload d_Reader_putToken_40 rfl ?_
      refine mv_iload_n d_Reader_putToken_42 rfl rfl ?_
      refine tr_iast9 (o := o0) (k := 6) I19 (I19.up h_o0) rfl q27 t_a28 (by decide) (Or.inl (by decide)) d_Reader_putToken_43 (vp_in_iff.mpr (by omega)) (fun M29 I30 K31 E32 A33 => ?_)
      have R34 : ∀ j, ra M29 o0 4 j = if j = v2.toNatClampNeg then x1.toInt else ra M0 o0 4 j := fun j => (A33 4 rfl (by decide) j).trans (R23 j)
      have R35 : ∀ j, ra M29 o0 5 j = if j = v2.toNatClampNeg then x2.toInt else ra M0 o0 5 j := fun j => (A33 5 rfl (by decide) j).trans (R24 j)
      have R36 : ∀ j, ra M29 o0 6 j = if j = v2.toNatClampNeg then x3.toInt else ra M0 o0 6 j := fun j => (E32 j).trans (by rw [R25 j])
      have R37 : ∀ j, ra M29 o0 7 j = ra M0 o0 7 j := fun j => (A33 7 rfl (by decide) j).trans (R26 j)
      refine mv_aload_n d_Reader_putToken_44 rfl rfl ?_
      obtain ⟨a39, q38, t_a39⟩ := tm_atR I30 h_o0 (k := 7) rfl
      refine tr_getK q38 d_Reader_putToken_45 f_Reader_28_9 ?_
      refine mv_iload d_Reader_putToken_48 rfl ?_
      refine mv_iload_n d_Reader_putToken_50 rfl rfl ?_
      refine mv_iconst (v := 1) d_Reader_putToken_51 (by decide) ?_
      have := mz_hi x1
      refine mv_icmp_neZ (tgt := 64) (a := x1.toInt) (b := 1) d_Reader_putToken_52 (by decide) rfl (by decide) (fun b40 => ?_) (fun b40 => ?_)
      · refine mv_iload_n d_Reader_putToken_64 rfl rfl ?_
        refine mv_iconst (v := 2) d_Reader_putToken_65 (by decide) ?_
        have := mz_hi x1
        refine mv_icmp_neZ (tgt := 78) (a := x1.toInt) (b := 2) d_Reader_putToken_66 (by decide) rfl (by decide) (fun b41 => ?_) (fun b41 => ?_)
        · refine mv_aload_n d_Reader_putToken_78 rfl rfl ?_
          refine mv_iload_n d_Reader_putToken_79 rfl rfl ?_
          obtain ⟨_, b42, -⟩ := I30.1 _ _ h_o0
          refine mv_callV (kc1 := 0) (ks1 := 0) (kc' := 0) (ks' := 0) (As := [.int x2]) (st9 := [.int x2, .ref o0, .int v2, .ref a39]) d_Reader_putToken_80 lV_Reader_261 b42 rfl (mj_enter (by decide) (Nat.le_of_ble_eq_true rfl) ?_) rfl (Nat.le_of_ble_eq_true rfl) (Nat.le_of_ble_eq_true rfl) (Nat.le_of_ble_eq_true rfl) (hst := rfl) (fun _ _ _ h => h)
          refine mv_iload_n d_Reader_byteAt_0 rfl rfl ?_
          have := mz_hi x2
          refine mv_if_ltZ (tgt := 20) (a := x2.toInt) d_Reader_byteAt_1 (by decide) rfl (fun b43 => ?_) (fun b43 => ?_)
          · refine mv_iconst (v := 0) d_Reader_byteAt_20 (by decide) ?_
            refine mv_iret d_Reader_byteAt_21 rfl (by first | rfl | decide) ?_
            exfalso
            omega
          · refine mv_iload_n d_Reader_byteAt_4 rfl rfl ?_
            refine mv_sipush (v := 400) d_Reader_byteAt_5 (by decide) ?_
            have := mz_hi x2
            refine mv_icmp_geZ (tgt := 20) (a := x2.toInt) (b := 400) d_Reader_byteAt_8 (by decide) rfl (by decide) (fun b44 => ?_) (fun b44 => ?_)
            · refine mv_iconst (v := 0) d_Reader_byteAt_20 (by decide) ?_
              refine mv_iret d_Reader_byteAt_21 rfl (by first | rfl | decide) ?_
              exfalso
              omega
            · refine mv_aload_n d_Reader_byteAt_11 rfl rfl ?_
              obtain ⟨a46, q45, t_a46⟩ := tm_atR I30 h_o0 (k := 3) rfl
              refine tr_getK q45 d_Reader_byteAt_12 f_Reader_15_9 ?_
              refine mv_iload_n d_Reader_byteAt_15 rfl rfl ?_
              refine tr_iald9 (o := o0) (k := 3) I30 q45 t_a46 (by decide) d_Reader_byteAt_16 (vp_in_iff.mpr (by omega)) (fun v47 e48 => ?_)
              have : 0 ≤ x2.toInt → x2.toInt < (pn : Int) → v47.toInt = pb (x2.toInt).toNat := fun h8 h9 => by rw [e48, show x2.toNatClampNeg = (x2.toInt).toNat from by have := mz_nat9 (i := x2) h8; omega]; exact (hB I30).2.2.2 _ (by omega)
              refine mv_goto (tgt := 21) d_Reader_byteAt_17 (by decide) ?_
              refine mv_iret d_Reader_byteAt_21 rfl (by first | rfl | decide) ?_
              refine tr_iast9 (o := o0) (k := 7) I30 (I30.up h_o0) rfl q38 t_a39 (by decide) (Or.inl (by decide)) d_Reader_putToken_83 (vp_in_iff.mpr (by omega)) (fun M49 I50 K51 E52 A53 => ?_)
              have R54 : ∀ j, ra M49 o0 4 j = if j = v2.toNatClampNeg then x1.toInt else ra M0 o0 4 j := fun j => (A53 4 rfl (by decide) j).trans (R34 j)
              have R55 : ∀ j, ra M49 o0 5 j = if j = v2.toNatClampNeg then x2.toInt else ra M0 o0 5 j := fun j => (A53 5 rfl (by decide) j).trans (R35 j)
              have R56 : ∀ j, ra M49 o0 6 j = if j = v2.toNatClampNeg then x3.toInt else ra M0 o0 6 j := fun j => (A53 6 rfl (by decide) j).trans (R36 j)
              have R57 : ∀ j, ra M49 o0 7 j = if j = v2.toNatClampNeg then v47.toInt else ra M0 o0 7 j := fun j => (E52 j).trans (by rw [R37 j])
              refine mv_aload_n d_Reader_putToken_84 rfl rfl ?_
              refine mv_dup d_Reader_putToken_85 rfl ?_
              refine tr_getK (k := 8) (K51 _ 9 8 _ (K31 _ 9 8 _ (K20 _ 9 8 _ (K9 _ 9 8 _ q1)))) d_Reader_putToken_86 f_Reader_244_9 ?_
              refine mv_iconst (v := 1) d_Reader_putToken_89 (by decide) ?_
              refine mv_iadd d_Reader_putToken_90 ?_
              have b62 : (v2 + 1).toInt = v2.toInt + 1 := mz_addn 1 1 (by decide) (by omega) (by omega)
              refine tr_putKM tm_okF I50 h_o0 (k := 8) rfl ⟨_, rfl⟩ (Or.inl (by decide)) d_Reader_putToken_91 p_Reader_244_9 rfl rfl (fun M58 I59 q60 K61 K61M => ?_)
              have R63 : ∀ j, ra M58 o0 4 j = if j = v2.toNatClampNeg then x1.toInt else ra M0 o0 4 j := fun j => (ra_put9 I50 h_o0 rfl (by decide) K61 K61M j).trans (R54 j)
              have R64 : ∀ j, ra M58 o0 5 j = if j = v2.toNatClampNeg then x2.toInt else ra M0 o0 5 j := fun j => (ra_put9 I50 h_o0 rfl (by decide) K61 K61M j).trans (R55 j)
              have R65 : ∀ j, ra M58 o0 6 j = if j = v2.toNatClampNeg then x3.toInt else ra M0 o0 6 j := fun j => (ra_put9 I50 h_o0 rfl (by decide) K61 K61M j).trans (R56 j)
              have R66 : ∀ j, ra M58 o0 7 j = if j = v2.toNatClampNeg then v47.toInt else ra M0 o0 7 j := fun j => (ra_put9 I50 h_o0 rfl (by decide) K61 K61M j).trans (R57 j)
              exact mv_vret d_Reader_putToken_94 rfl ⟨_, I59, rfl, (yR.more yt ((tm_rv q60).trans (by omega)) (by have := mz_nat9 (i := v2) (by omega); omega) R63 R64 R65 R66 (by omega) (by omega) (by omega) (by have hd := p_so_d (pb (p_st pb pn tc)); have hs := p_st_nb (b := pb) (n := pn) (k := tc); have h4 : p_so (pb (p_st pb pn tc)) ≠ 4 := (fun h => hs ⟨yt, h⟩); rw [p_va_s (by omega), show p_st pb pn tc = x2.toInt.toNat from by omega]; omega))⟩
        · refine mv_aload_n d_Reader_putToken_69 rfl rfl ?_
          refine mv_iload_n d_Reader_putToken_70 rfl rfl ?_
          refine mv_iload_n d_Reader_putToken_71 rfl rfl ?_
          obtain ⟨_, b73, -⟩ := I30.1 _ _ h_o0
          refine mv_callV (kc' := 0) (ks' := 0) (As := [.int x2, .int x3]) (st9 := [.int x3, .int x2, .ref o0, .int v2, .ref a39]) d_Reader_putToken_72 lV_Reader_258 b73 rfl (tc_Reader_numberValue_x (d := (d + 5)) (x9 := x9) (o0 := o0) (x1 := x2) (x2 := x3) h_o0 (hB I30) (by omega) (fun i h8 h9 => by have e9 := p_in yt (i - p_st pb pn tc) (by omega); rw [show p_st pb pn tc + (i - p_st pb pn tc) = i from by omega] at e9; have := p_so_d (pb i); omega) I30.start) rfl (Nat.le_of_ble_eq_true rfl) (Nat.le_of_ble_eq_true rfl) (Nat.le_of_ble_eq_true rfl) (hst := rfl) (fun b67r M68 n69 b67 => ?_)
          obtain ⟨T70, J71, v74, rfl, f75⟩ := b67
          have I72 := I30.call J71 (tm_sub (by decide)) (Or.inl rfl)
          have t76 := J71.up h_o0
          have t77 := J71.up t_a39
          have q78 := J71.keep h_o0 (by decide) (K31 _ 9 8 _ (K20 _ 9 8 _ (K9 _ 9 8 _ q1)))
          have q79 := J71.keep h_o0 (by decide) (K31 _ 9 4 _ (K20 _ 9 4 _ (K9 _ 9 4 _ q5)))
          have t80 := J71.up t_a6
          have q81 := J71.keep h_o0 (by decide) (K31 _ 9 5 _ (K20 _ 9 5 _ q16))
          have t82 := J71.up t_a17
          have q83 := J71.keep h_o0 (by decide) (K31 _ 9 6 _ q27)
          have t84 := J71.up t_a28
          have q85 := J71.keep h_o0 (by decide) q38
          have R86 : ∀ j, ra M68 o0 4 j = if j = v2.toNatClampNeg then x1.toInt else ra M0 o0 4 j := fun j => (ra_9 I30.1 J71 (I30.up h_o0) rfl (by decide) (by decide) j).trans (R34 j)
          have R87 : ∀ j, ra M68 o0 5 j = if j = v2.toNatClampNeg then x2.toInt else ra M0 o0 5 j := fun j => (ra_9 I30.1 J71 (I30.up h_o0) rfl (by decide) (by decide) j).trans (R35 j)
          have R88 : ∀ j, ra M68 o0 6 j = if j = v2.toNatClampNeg then x3.toInt else ra M0 o0 6 j := fun j => (ra_9 I30.1 J71 (I30.up h_o0) rfl (by decide) (by decide) j).trans (R36 j)
          have R89 : ∀ j, ra M68 o0 7 j = ra M0 o0 7 j := fun j => (ra_9 I30.1 J71 (I30.up h_o0) rfl (by decide) (by decide) j).trans (R37 j)
          refine mv_goto (tgt := 83) d_Reader_putToken_75 (by decide) ?_
          refine tr_iast9 (o := o0) (k := 7) I72 (I72.up h_o0) rfl q85 t77 (by decide) (Or.inl (by decide)) d_Reader_putToken_83 (vp_in_iff.mpr (by omega)) (fun M90 I91 K92 E93 A94 => ?_)
          have R95 : ∀ j, ra M90 o0 4 j = if j = v2.toNatClampNeg then x1.toInt else ra M0 o0 4 j := fun j => (A94 4 rfl (by decide) j).trans (R86 j)
          have R96 : ∀ j, ra M90 o0 5 j = if j = v2.toNatClampNeg then x2.toInt else ra M0 o0 5 j := fun j => (A94 5 rfl (by decide) j).trans (R87 j)
          have R97 : ∀ j, ra M90 o0 6 j = if j = v2.toNatClampNeg then x3.toInt else ra M0 o0 6 j := fun j => (A94 6 rfl (by decide) j).trans (R88 j)
          have R98 : ∀ j, ra M90 o0 7 j = if j = v2.toNatClampNeg then v74.toInt else ra M0 o0 7 j := fun j => (E93 j).trans (by rw [R89 j])
          refine mv_aload_n d_Reader_putToken_84 rfl rfl ?_
          refine mv_dup d_Reader_putToken_85 rfl ?_
          refine tr_getK (k := 8) (K92 _ 9 8 _ q78) d_Reader_putToken_86 f_Reader_244_9 ?_
          refine mv_iconst (v := 1) d_Reader_putToken_89 (by decide) ?_
          refine mv_iadd d_Reader_putToken_90 ?_
          have b103 : (v2 + 1).toInt = v2.toInt + 1 := mz_addn 1 1 (by decide) (by omega) (by omega)
          refine tr_putKM tm_okF I91 t76 (k := 8) rfl ⟨_, rfl⟩ (Or.inl (by decide)) d_Reader_putToken_91 p_Reader_244_9 rfl rfl (fun M99 I100 q101 K102 K102M => ?_)
          have R104 : ∀ j, ra M99 o0 4 j = if j = v2.toNatClampNeg then x1.toInt else ra M0 o0 4 j := fun j => (ra_put9 I91 t76 rfl (by decide) K102 K102M j).trans (R95 j)
          have R105 : ∀ j, ra M99 o0 5 j = if j = v2.toNatClampNeg then x2.toInt else ra M0 o0 5 j := fun j => (ra_put9 I91 t76 rfl (by decide) K102 K102M j).trans (R96 j)
          have R106 : ∀ j, ra M99 o0 6 j = if j = v2.toNatClampNeg then x3.toInt else ra M0 o0 6 j := fun j => (ra_put9 I91 t76 rfl (by decide) K102 K102M j).trans (R97 j)
          have R107 : ∀ j, ra M99 o0 7 j = if j = v2.toNatClampNeg then v74.toInt else ra M0 o0 7 j := fun j => (ra_put9 I91 t76 rfl (by decide) K102 K102M j).trans (R98 j)
          exact mv_vret d_Reader_putToken_94 rfl ⟨_, I100, rfl, (yR.more yt ((tm_rv q101).trans (by omega)) (by have := mz_nat9 (i := v2) (by omega); omega) R104 R105 R106 R107 (by omega) (by omega) (by omega) (by rw [p_va_n (by omega)]; unfold p_nm; rcases f75 with ⟨h1, h2⟩ | ⟨h1, h2⟩; (rw [if_neg (by intro h3; have := h3.2; omega)]; exact h2); (rw [if_pos ⟨by omega, by omega⟩, show p_sp pb pn tc - p_st pb pn tc = (x3.toInt - x2.toInt).toNat from by omega, show p_st pb pn tc = x2.toInt.toNat from by omega]; exact h2)))⟩
      · refine mv_aload_n d_Reader_putToken_55 rfl rfl ?_
        refine mv_iload_n d_Reader_putToken_56 rfl rfl ?_
        refine mv_iload_n d_Reader_putToken_57 rfl rfl ?_
        obtain ⟨_, b114, -⟩ := I30.1 _ _ h_o0
        refine mv_callV (kc' := 0) (ks' := 0) (As := [.int x2, .int x3]) (st9 := [.int x3, .int x2, .ref o0, .int v2, .ref a39]) d_Reader_putToken_58 lV_Reader_255 b114 rfl (tc_Reader_wordValue_x (d := d) (x9 := x9) (o0 := o0) (x1 := x2) (x2 := x3) h_o0 (hB I30) (by omega) I30.start) rfl (Nat.le_of_ble_eq_true rfl) (Nat.le_of_ble_eq_true rfl) (Nat.le_of_ble_eq_true rfl) (hst := rfl) (fun b108r M109 n110 b108 => ?_)
        obtain ⟨T111, J112, v115, rfl, f116⟩ := b108
        have I113 := I30.call J112 (tm_sub (by decide)) (Or.inl rfl)
        have t117 := J112.up h_o0
        have t118 := J112.up t_a39
        have q119 := J112.keep h_o0 (by decide) (K31 _ 9 8 _ (K20 _ 9 8 _ (K9 _ 9 8 _ q1)))
        have q120 := J112.keep h_o0 (by decide) (K31 _ 9 4 _ (K20 _ 9 4 _ (K9 _ 9 4 _ q5)))
        have t121 := J112.up t_a6
        have q122 := J112.keep h_o0 (by decide) (K31 _ 9 5 _ (K20 _ 9 5 _ q16))
        have t123 := J112.up t_a17
        have q124 := J112.keep h_o0 (by decide) (K31 _ 9 6 _ q27)
        have t125 := J112.up t_a28
        have q126 := J112.keep h_o0 (by decide) q38
        have R127 : ∀ j, ra M109 o0 4 j = if j = v2.toNatClampNeg then x1.toInt else ra M0 o0 4 j := fun j => (ra_9 I30.1 J112 (I30.up h_o0) rfl (by decide) (by decide) j).trans (R34 j)
        have R128 : ∀ j, ra M109 o0 5 j = if j = v2.toNatClampNeg then x2.toInt else ra M0 o0 5 j := fun j => (ra_9 I30.1 J112 (I30.up h_o0) rfl (by decide) (by decide) j).trans (R35 j)
        have R129 : ∀ j, ra M109 o0 6 j = if j = v2.toNatClampNeg then x3.toInt else ra M0 o0 6 j := fun j => (ra_9 I30.1 J112 (I30.up h_o0) rfl (by decide) (by decide) j).trans (R36 j)
        have R130 : ∀ j, ra M109 o0 7 j = ra M0 o0 7 j := fun j => (ra_9 I30.1 J112 (I30.up h_o0) rfl (by decide) (by decide) j).trans (R37 j)
        refine mv_goto (tgt := 83) d_Reader_putToken_61 (by decide) ?_
        refine tr_iast9 (o := o0) (k := 7) I113 (I113.up h_o0) rfl q126 t118 (by decide) (Or.inl (by decide)) d_Reader_putToken_83 (vp_in_iff.mpr (by omega)) (fun M131 I132 K133 E134 A135 => ?_)
        have R136 : ∀ j, ra M131 o0 4 j = if j = v2.toNatClampNeg then x1.toInt else ra M0 o0 4 j := fun j => (A135 4 rfl (by decide) j).trans (R127 j)
        have R137 : ∀ j, ra M131 o0 5 j = if j = v2.toNatClampNeg then x2.toInt else ra M0 o0 5 j := fun j => (A135 5 rfl (by decide) j).trans (R128 j)
        have R138 : ∀ j, ra M131 o0 6 j = if j = v2.toNatClampNeg then x3.toInt else ra M0 o0 6 j := fun j => (A135 6 rfl (by decide) j).trans (R129 j)
        have R139 : ∀ j, ra M131 o0 7 j = if j = v2.toNatClampNeg then v115.toInt else ra M0 o0 7 j := fun j => (E134 j).trans (by rw [R130 j])
        refine mv_aload_n d_Reader_putToken_84 rfl rfl ?_
        refine mv_dup d_Reader_putToken_85 rfl ?_
        refine tr_getK (k := 8) (K133 _ 9 8 _ q119) d_Reader_putToken_86 f_Reader_244_9 ?_
        refine mv_iconst (v := 1) d_Reader_putToken_89 (by decide) ?_
        refine mv_iadd d_Reader_putToken_90 ?_
        have b144 : (v2 + 1).toInt = v2.toInt + 1 := mz_addn 1 1 (by decide) (by omega) (by omega)
        refine tr_putKM tm_okF I132 t117 (k := 8) rfl ⟨_, rfl⟩ (Or.inl (by decide)) d_Reader_putToken_91 p_Reader_244_9 rfl rfl (fun M140 I141 q142 K143 K143M => ?_)
        have R145 : ∀ j, ra M140 o0 4 j = if j = v2.toNatClampNeg then x1.toInt else ra M0 o0 4 j := fun j => (ra_put9 I132 t117 rfl (by decide) K143 K143M j).trans (R136 j)
        have R146 : ∀ j, ra M140 o0 5 j = if j = v2.toNatClampNeg then x2.toInt else ra M0 o0 5 j := fun j => (ra_put9 I132 t117 rfl (by decide) K143 K143M j).trans (R137 j)
        have R147 : ∀ j, ra M140 o0 6 j = if j = v2.toNatClampNeg then x3.toInt else ra M0 o0 6 j := fun j => (ra_put9 I132 t117 rfl (by decide) K143 K143M j).trans (R138 j)
        have R148 : ∀ j, ra M140 o0 7 j = if j = v2.toNatClampNeg then v115.toInt else ra M0 o0 7 j := fun j => (ra_put9 I132 t117 rfl (by decide) K143 K143M j).trans (R139 j)
        exact mv_vret d_Reader_putToken_94 rfl ⟨_, I141, rfl, (yR.more yt ((tm_rv q142).trans (by omega)) (by have := mz_nat9 (i := v2) (by omega); omega) R145 R146 R147 R148 (by omega) (by omega) (by omega) (by rw [p_va_w (by omega), show p_st pb pn tc = x2.toInt.toNat from by omega, show p_sp pb pn tc = x3.toInt.toNat from by omega]; exact f116))⟩
    · exact mv_vret d_Reader_putToken_19 rfl ⟨_, I0, rfl, (by exfalso; omega)⟩
def w_Reader_cut_x : List Nat := [908, 954, 955, 956, 957]
set_option maxHeartbeats 100000000 in theorem tc_Reader_cut_x {g : mj_G} {l : Launch} {d : Nat} {T0 : tm_H} {M0 : mj_M} {n0 x9 : Nat} {o0 : Nat} (h_o0 : T0 o0 = some (0, 9, 0)) {pb : Nat → Int} {pn : Nat} (yB : qB M0 o0 pb pn) (I0 : tm_I tm_FT (tm_in w_Reader_cut_x) x9 T0 M0 n0 T0 M0 n0) : mj_Met g l kY_Reader_cut (d + 8) [.ref o0] M0 n0 0 0 (tm_Q tm_FT (tm_in w_Reader_cut_x) x9 T0 M0 n0 (fun r _ M => r = none ∧ (∃ tc : Nat, qR M o0 pb pn tc ∧ ¬ p_st pb pn tc < pn))) := by
  refine mj_enter (by decide) (Nat.le_of_ble_eq_true rfl) ?_
  have hB : ∀ {T : tm_H} {M : mj_M} {n : Nat}, tm_I tm_FT (tm_in w_Reader_cut_x) x9 T0 M0 n0 T M n → qB M o0 pb pn := fun I => yB.keep I0.1 I h_o0 (by decide +kernel) (by decide +kernel) (by decide +kernel)
  have := yB.1
  have := yB.2.1
  refine mv_aload_n d_Reader_cut_0 rfl rfl ?_
  refine mv_iconst (v := 0) d_Reader_cut_1 (by decide) ?_
  refine tr_putK tm_okF I0 h_o0 (k := 8) rfl ⟨_, rfl⟩ (Or.inl (by decide)) d_Reader_cut_2 p_Reader_244_9 rfl rfl (fun M1 I2 q3 K4 => ?_)
  refine mv_iconst (v := 0) d_Reader_cut_5 (by decide) ?_
  refine mv_istore_n (lv' := [(1, .int 0), (0, .ref o0)]) d_Reader_cut_6 rfl (by decide) rfl ?_
  have L7_5 : ∀ (k : Nat) (i1_5 : Int32) (T_5 : tm_H) (M_5 : mj_M) (n_5 : Nat), tm_I tm_FT (tm_in w_Reader_cut_x) x9 T0 M0 n0 T_5 M_5 n_5 → T_5 o0 = some (0, 9, 0) → 0 ≤ i1_5.toInt → i1_5.toInt ≤ (pn : Int) → (∃ tc : Nat, qR M_5 o0 pb pn tc ∧ p_rn pb pn 4 (i1_5.toInt).toNat = p_st pb pn tc) → 2147483647 - i1_5.toInt < (k : Int) → mj_V g l kY_Reader_cut (d + 8) 7 [(1, .int i1_5), (0, .ref o0)] [] M_5 n_5 0 0 (tm_Q tm_FT (tm_in w_Reader_cut_x) x9 T0 M0 n0 (fun r _ M => r = none ∧ (∃ tc : Nat, qR M o0 pb pn tc ∧ ¬ p_st pb pn tc < pn))) := by
    intro k5
    induction k5 with
    | zero =>
      intro i1_5 T_5 M_5 n_5 I_5 h_q0_5 iv0_5 iv1_5 iv2_5 hk5
      have := mz_hi i1_5
      omega
    | succ k5 ih5 =>
      intro i1_5 T_5 M_5 n_5 I_5 h_q0_5 iv0_5 iv1_5 iv2_5 hk5
      obtain ⟨c6, h7, h8⟩ := iv2_5
      refine mv_iload_n d_Reader_cut_7 rfl rfl ?_
      refine mv_aload_n d_Reader_cut_8 rfl rfl ?_
      obtain ⟨v10, q9⟩ := tm_atI I_5 h_q0_5 (k := 0) rfl
      refine tr_getK q9 d_Reader_cut_9 f_Reader_34_9 ?_
      have := tm_rv q9
      have := (hB I_5).1
      have := mz_hi i1_5
      have := mz_hi v10
      refine mv_icmp_geZ (tgt := 70) (a := i1_5.toInt) (b := v10.toInt) d_Reader_cut_12 (by decide) rfl rfl (fun b11 => ?_) (fun b11 => ?_)
      · exact mv_vret d_Reader_cut_70 rfl ⟨_, I_5, rfl, ⟨c6, h7, by rw [← h8, p_rn_end (fun h9 => by omega)]; omega⟩⟩
      · refine mv_aload_n d_Reader_cut_15 rfl rfl ?_
        refine mv_iload_n d_Reader_cut_16 rfl rfl ?_
        obtain ⟨_, b18, -⟩ := I_5.1 _ _ h_q0_5
        refine mv_callV (kc' := 0) (ks' := 0) (As := [.int i1_5]) (st9 := [.int i1_5, .ref o0]) d_Reader_cut_17 lV_Reader_247 b18 rfl (tc_Reader_sortOf_x (d := (d + 6)) (x9 := x9) (o0 := o0) (x1 := i1_5) h_q0_5 (hB I_5) I_5.start) rfl (Nat.le_of_ble_eq_true rfl) (Nat.le_of_ble_eq_true rfl) (Nat.le_of_ble_eq_true rfl) (hst := rfl) (fun b12r M13 n14 b12 => ?_)
        obtain ⟨T15, J16, v19, rfl, f20⟩ := b12
        have I17 := I_5.call J16 (tm_sub (by decide)) (Or.inl rfl)
        have t21 := J16.up h_q0_5
        have q22 := J16.keep h_q0_5 (by decide) q9
        have h23 := h7.keep I_5.1 J16 (I_5.up h_o0) (by decide) (fun k h1 h2 => by rcases (show k = 4 ∨ k = 5 ∨ k = 6 ∨ k = 7 by omega) with rfl | rfl | rfl | rfl <;> exact ⟨by decide, by decide⟩)
        refine mv_istore_n (lv' := [(2, .int v19), (1, .int i1_5), (0, .ref o0)]) d_Reader_cut_20 rfl (by decide) rfl ?_
        refine mv_iload_n d_Reader_cut_21 rfl rfl ?_
        refine mv_iconst (v := 1) d_Reader_cut_22 (by decide) ?_
        refine mv_iadd d_Reader_cut_23 ?_
        refine mv_istore_n (lv' := [(3, .int (i1_5 + 1)), (2, .int v19), (1, .int i1_5), (0, .ref o0)]) d_Reader_cut_24 rfl (by decide) rfl ?_
        have L25_24 : ∀ (k : Nat) (i3_24 : Int32) (T_24 : tm_H) (M_24 : mj_M) (n_24 : Nat), tm_I tm_FT (tm_in w_Reader_cut_x) x9 T0 M0 n0 T_24 M_24 n_24 → T_24 o0 = some (0, 9, 0) → i1_5.toInt + 1 ≤ i3_24.toInt → 0 ≤ i1_5.toInt → i1_5.toInt < (pn : Int) → i3_24.toInt ≤ (pn : Int) → v19.toInt = p_so (pb (i1_5.toInt).toNat) → (v19.toInt = 3 → i3_24.toInt = i1_5.toInt + 1) → p_rn pb pn (v19.toInt) (i3_24.toInt).toNat = p_rn pb pn (v19.toInt) ((i1_5.toInt).toNat + 1) → qR M_24 o0 pb pn c6 → 2147483647 - i3_24.toInt < (k : Int) → mj_V g l kY_Reader_cut (d + 8) 25 [(3, .int i3_24), (2, .int v19), (1, .int i1_5), (0, .ref o0)] [] M_24 n_24 0 0 (tm_Q tm_FT (tm_in w_Reader_cut_x) x9 T0 M0 n0 (fun r _ M => r = none ∧ (∃ tc : Nat, qR M o0 pb pn tc ∧ ¬ p_st pb pn tc < pn))) := by
          intro k24
          induction k24 with
          | zero =>
            intro i3_24 T_24 M_24 n_24 I_24 h_q0_24 iv0_24 iv1_24 iv2_24 iv3_24 iv4_24 iv5_24 iv6_24 iv7_24 hk24
            have := mz_hi i3_24
            omega
          | succ k24 ih24 =>
            intro i3_24 T_24 M_24 n_24 I_24 h_q0_24 iv0_24 iv1_24 iv2_24 iv3_24 iv4_24 iv5_24 iv6_24 iv7_24 hk24
            refine mv_iload_n d_Reader_cut_25 rfl rfl ?_
            refine mv_iconst (v := 3) d_Reader_cut_26 (by decide) ?_
            have := mz_hi v19
            refine mv_icmp_eqZ (tgt := 53) (a := v19.toInt) (b := 3) d_Reader_cut_27 (by decide) rfl (by decide) (fun b25 => ?_) (fun b25 => ?_)
            · refine mv_iload_n d_Reader_cut_53 rfl rfl ?_
              refine mv_iconst (v := 4) d_Reader_cut_54 (by decide) ?_
              have := mz_hi v19
              refine mv_icmp_eqZ (tgt := 65) (a := v19.toInt) (b := 4) d_Reader_cut_55 (by decide) rfl (by decide) (fun b26 => absurd b26 (by omega)) (fun b26 => ?_)
              refine mv_aload_n d_Reader_cut_58 rfl rfl ?_
              refine mv_iload_n d_Reader_cut_59 rfl rfl ?_
              refine mv_iload_n d_Reader_cut_60 rfl rfl ?_
              refine mv_iload_n d_Reader_cut_61 rfl rfl ?_
              obtain ⟨_, b33, -⟩ := I_24.1 _ _ h_q0_24
              refine mv_callV (kc' := 0) (ks' := 0) (As := [.int v19, .int i1_5, .int i3_24]) (st9 := [.int i3_24, .int i1_5, .int v19, .ref o0]) d_Reader_cut_62 lV_Reader_251 b33 rfl (tc_Reader_putToken_x (d := d) (x9 := x9) (o0 := o0) (x1 := v19) (x2 := i1_5) (x3 := i3_24) h_q0_24 (hB I_24) iv7_24 (by have k1 : p_st pb pn c6 = (i1_5.toInt).toNat := (h8.symm.trans (p_rn_end (fun h9 => by omega))); have k2 := p_tok (t := v19.toInt) (t9 := (i3_24.toInt).toNat) k1 (by omega) (by omega) (by first | exact Or.inl ⟨by omega, by omega⟩ | exact Or.inr ⟨by omega, iv6_24.symm.trans (p_rn_end (fun h9 => by omega))⟩); omega) (by have k1 : p_st pb pn c6 = (i1_5.toInt).toNat := (h8.symm.trans (p_rn_end (fun h9 => by omega))); have k2 := p_tok (t := v19.toInt) (t9 := (i3_24.toInt).toNat) k1 (by omega) (by omega) (by first | exact Or.inl ⟨by omega, by omega⟩ | exact Or.inr ⟨by omega, iv6_24.symm.trans (p_rn_end (fun h9 => by omega))⟩); omega) (by have k1 : p_st pb pn c6 = (i1_5.toInt).toNat := (h8.symm.trans (p_rn_end (fun h9 => by omega))); have k2 := p_tok (t := v19.toInt) (t9 := (i3_24.toInt).toNat) k1 (by omega) (by omega) (by first | exact Or.inl ⟨by omega, by omega⟩ | exact Or.inr ⟨by omega, iv6_24.symm.trans (p_rn_end (fun h9 => by omega))⟩); omega) (by have k1 : p_st pb pn c6 = (i1_5.toInt).toNat := (h8.symm.trans (p_rn_end (fun h9 => by omega))); have k2 := p_tok (t := v19.toInt) (t9 := (i3_24.toInt).toNat) k1 (by omega) (by omega) (by first | exact Or.inl ⟨by omega, by omega⟩ | exact Or.inr ⟨by omega, iv6_24.symm.trans (p_rn_end (fun h9 => by omega))⟩); omega) I_24.start) rfl (Nat.le_of_ble_eq_true rfl) (Nat.le_of_ble_eq_true rfl) (Nat.le_of_ble_eq_true rfl) (hst := rfl) (fun b27r M28 n29 b27 => ?_)
              obtain ⟨T30, J31, rfl, f34⟩ := b27
              have I32 := I_24.call J31 (tm_sub (by decide)) (Or.inl rfl)
              have t35 := J31.up h_q0_24
              refine mv_iload_n d_Reader_cut_65 rfl rfl ?_
              refine mv_istore_n (lv' := [(1, .int i3_24), (3, .int i3_24), (2, .int v19), (0, .ref o0)]) d_Reader_cut_66 rfl (by decide) rfl ?_
              refine mv_goto (tgt := 7) d_Reader_cut_67 (by decide) ?_
              have : (0 : Int32).toInt = 0 := by decide
              refine mv_locals (lv' := [(1, .int i3_24), (0, .ref o0)]) (by intro q hq; simp only [List.mem_cons, List.not_mem_nil, or_false] at hq; rcases hq with rfl | rfl <;> rfl) ?_
              exact (ih5 i3_24 T30 M28 n29 I32 t35 (by first | omega | decide) (by first | omega | decide) ⟨c6 + 1, f34, by have k1 : p_st pb pn c6 = (i1_5.toInt).toNat := (h8.symm.trans (p_rn_end (fun h9 => by omega))); have k2 := p_tok (t := v19.toInt) (t9 := (i3_24.toInt).toNat) k1 (by omega) (by omega) (by first | exact Or.inl ⟨by omega, by omega⟩ | exact Or.inr ⟨by omega, iv6_24.symm.trans (p_rn_end (fun h9 => by omega))⟩); exact p_st_on k2.2⟩ (by omega))
            · refine mv_iload_n d_Reader_cut_30 rfl rfl ?_
              refine mv_aload_n d_Reader_cut_31 rfl rfl ?_
              obtain ⟨v37, q36⟩ := tm_atI I_24 h_q0_24 (k := 0) rfl
              refine tr_getK q36 d_Reader_cut_32 f_Reader_34_9 ?_
              have := tm_rv q36
              have := (hB I_24).1
              have := mz_hi i3_24
              have := mz_hi v37
              refine mv_icmp_geZ (tgt := 53) (a := i3_24.toInt) (b := v37.toInt) d_Reader_cut_35 (by decide) rfl rfl (fun b38 => ?_) (fun b38 => ?_)
              · refine mv_iload_n d_Reader_cut_53 rfl rfl ?_
                refine mv_iconst (v := 4) d_Reader_cut_54 (by decide) ?_
                have := mz_hi v19
                refine mv_icmp_eqZ (tgt := 65) (a := v19.toInt) (b := 4) d_Reader_cut_55 (by decide) rfl (by decide) (fun b39 => ?_) (fun b39 => ?_)
                · refine mv_iload_n d_Reader_cut_65 rfl rfl ?_
                  refine mv_istore_n (lv' := [(1, .int i3_24), (3, .int i3_24), (2, .int v19), (0, .ref o0)]) d_Reader_cut_66 rfl (by decide) rfl ?_
                  refine mv_goto (tgt := 7) d_Reader_cut_67 (by decide) ?_
                  have : (0 : Int32).toInt = 0 := by decide
                  refine mv_locals (lv' := [(1, .int i3_24), (0, .ref o0)]) (by intro q hq; simp only [List.mem_cons, List.not_mem_nil, or_false] at hq; rcases hq with rfl | rfl <;> rfl) ?_
                  exact (ih5 i3_24 T_24 M_24 n_24 I_24 h_q0_24 (by first | omega | decide) (by first | omega | decide) ⟨c6, iv7_24, by have e9 := iv6_24; have e8 := p_rn_end (b := pb) (n := pn) (t := 4) (p := (i3_24.toInt).toNat) (fun h9 => by omega); rw [show v19.toInt = 4 from by omega] at e9; rw [e8] at e9; rw [e8, e9, ← p_rn_on (by omega) (by omega)]; exact h8⟩ (by omega))
                · refine mv_aload_n d_Reader_cut_58 rfl rfl ?_
                  refine mv_iload_n d_Reader_cut_59 rfl rfl ?_
                  refine mv_iload_n d_Reader_cut_60 rfl rfl ?_
                  refine mv_iload_n d_Reader_cut_61 rfl rfl ?_
                  obtain ⟨_, b46, -⟩ := I_24.1 _ _ h_q0_24
                  refine mv_callV (kc' := 0) (ks' := 0) (As := [.int v19, .int i1_5, .int i3_24]) (st9 := [.int i3_24, .int i1_5, .int v19, .ref o0]) d_Reader_cut_62 lV_Reader_251 b46 rfl (tc_Reader_putToken_x (d := d) (x9 := x9) (o0 := o0) (x1 := v19) (x2 := i1_5) (x3 := i3_24) h_q0_24 (hB I_24) iv7_24 (by have k1 : p_st pb pn c6 = (i1_5.toInt).toNat := (h8.symm.trans (p_rn_end (fun h9 => by omega))); have k2 := p_tok (t := v19.toInt) (t9 := (i3_24.toInt).toNat) k1 (by omega) (by omega) (by first | exact Or.inl ⟨by omega, by omega⟩ | exact Or.inr ⟨by omega, iv6_24.symm.trans (p_rn_end (fun h9 => by omega))⟩); omega) (by have k1 : p_st pb pn c6 = (i1_5.toInt).toNat := (h8.symm.trans (p_rn_end (fun h9 => by omega))); have k2 := p_tok (t := v19.toInt) (t9 := (i3_24.toInt).toNat) k1 (by omega) (by omega) (by first | exact Or.inl ⟨by omega, by omega⟩ | exact Or.inr ⟨by omega, iv6_24.symm.trans (p_rn_end (fun h9 => by omega))⟩); omega) (by have k1 : p_st pb pn c6 = (i1_5.toInt).toNat := (h8.symm.trans (p_rn_end (fun h9 => by omega))); have k2 := p_tok (t := v19.toInt) (t9 := (i3_24.toInt).toNat) k1 (by omega) (by omega) (by first | exact Or.inl ⟨by omega, by omega⟩ | exact Or.inr ⟨by omega, iv6_24.symm.trans (p_rn_end (fun h9 => by omega))⟩); omega) (by have k1 : p_st pb pn c6 = (i1_5.toInt).toNat := (h8.symm.trans (p_rn_end (fun h9 => by omega))); have k2 := p_tok (t := v19.toInt) (t9 := (i3_24.toInt).toNat) k1 (by omega) (by omega) (by first | exact Or.inl ⟨by omega, by omega⟩ | exact Or.inr ⟨by omega, iv6_24.symm.trans (p_rn_end (fun h9 => by omega))⟩); omega) I_24.start) rfl (Nat.le_of_ble_eq_true rfl) (Nat.le_of_ble_eq_true rfl) (Nat.le_of_ble_eq_true rfl) (hst := rfl) (fun b40r M41 n42 b40 => ?_)
                  obtain ⟨T43, J44, rfl, f47⟩ := b40
                  have I45 := I_24.call J44 (tm_sub (by decide)) (Or.inl rfl)
                  have t48 := J44.up h_q0_24
                  have q49 := J44.keep h_q0_24 (by decide) q36
                  refine mv_iload_n d_Reader_cut_65 rfl rfl ?_
                  refine mv_istore_n (lv' := [(1, .int i3_24), (3, .int i3_24), (2, .int v19), (0, .ref o0)]) d_Reader_cut_66 rfl (by decide) rfl ?_
                  refine mv_goto (tgt := 7) d_Reader_cut_67 (by decide) ?_
                  have : (0 : Int32).toInt = 0 := by decide
                  refine mv_locals (lv' := [(1, .int i3_24), (0, .ref o0)]) (by intro q hq; simp only [List.mem_cons, List.not_mem_nil, or_false] at hq; rcases hq with rfl | rfl <;> rfl) ?_
                  exact (ih5 i3_24 T43 M41 n42 I45 t48 (by first | omega | decide) (by first | omega | decide) ⟨c6 + 1, f47, by have k1 : p_st pb pn c6 = (i1_5.toInt).toNat := (h8.symm.trans (p_rn_end (fun h9 => by omega))); have k2 := p_tok (t := v19.toInt) (t9 := (i3_24.toInt).toNat) k1 (by omega) (by omega) (by first | exact Or.inl ⟨by omega, by omega⟩ | exact Or.inr ⟨by omega, iv6_24.symm.trans (p_rn_end (fun h9 => by omega))⟩); exact p_st_on k2.2⟩ (by omega))
              · refine mv_aload_n d_Reader_cut_38 rfl rfl ?_
                refine mv_iload_n d_Reader_cut_39 rfl rfl ?_
                obtain ⟨_, b56, -⟩ := I_24.1 _ _ h_q0_24
                refine mv_callV (kc' := 0) (ks' := 0) (As := [.int i3_24]) (st9 := [.int i3_24, .ref o0]) d_Reader_cut_40 lV_Reader_247 b56 rfl (tc_Reader_sortOf_x (d := (d + 6)) (x9 := x9) (o0 := o0) (x1 := i3_24) h_q0_24 (hB I_24) I_24.start) rfl (Nat.le_of_ble_eq_true rfl) (Nat.le_of_ble_eq_true rfl) (Nat.le_of_ble_eq_true rfl) (hst := rfl) (fun b50r M51 n52 b50 => ?_)
                obtain ⟨T53, J54, v57, rfl, f58⟩ := b50
                have I55 := I_24.call J54 (tm_sub (by decide)) (Or.inl rfl)
                have t59 := J54.up h_q0_24
                have q60 := J54.keep h_q0_24 (by decide) q36
                have h61 := iv7_24.keep I_24.1 J54 (I_24.up h_o0) (by decide) (fun k h1 h2 => by rcases (show k = 4 ∨ k = 5 ∨ k = 6 ∨ k = 7 by omega) with rfl | rfl | rfl | rfl <;> exact ⟨by decide, by decide⟩)
                refine mv_iload_n d_Reader_cut_43 rfl rfl ?_
                have := mz_hi v57
                have := mz_hi v19
                refine mv_icmp_neZ (tgt := 53) (a := v57.toInt) (b := v19.toInt) d_Reader_cut_44 (by decide) rfl rfl (fun b62 => ?_) (fun b62 => ?_)
                · refine mv_iload_n d_Reader_cut_53 rfl rfl ?_
                  refine mv_iconst (v := 4) d_Reader_cut_54 (by decide) ?_
                  have := mz_hi v19
                  refine mv_icmp_eqZ (tgt := 65) (a := v19.toInt) (b := 4) d_Reader_cut_55 (by decide) rfl (by decide) (fun b63 => ?_) (fun b63 => ?_)
                  · refine mv_iload_n d_Reader_cut_65 rfl rfl ?_
                    refine mv_istore_n (lv' := [(1, .int i3_24), (3, .int i3_24), (2, .int v19), (0, .ref o0)]) d_Reader_cut_66 rfl (by decide) rfl ?_
                    refine mv_goto (tgt := 7) d_Reader_cut_67 (by decide) ?_
                    have : (0 : Int32).toInt = 0 := by decide
                    refine mv_locals (lv' := [(1, .int i3_24), (0, .ref o0)]) (by intro q hq; simp only [List.mem_cons, List.not_mem_nil, or_false] at hq; rcases hq with rfl | rfl <;> rfl) ?_
                    exact (ih5 i3_24 T53 M51 n52 I55 t59 (by first | omega | decide) (by first | omega | decide) ⟨c6, h61, by have e9 := iv6_24; have e8 := p_rn_end (b := pb) (n := pn) (t := 4) (p := (i3_24.toInt).toNat) (fun h9 => by omega); rw [show v19.toInt = 4 from by omega] at e9; rw [e8] at e9; rw [e8, e9, ← p_rn_on (by omega) (by omega)]; exact h8⟩ (by omega))
                  · refine mv_aload_n d_Reader_cut_58 rfl rfl ?_
                    refine mv_iload_n d_Reader_cut_59 rfl rfl ?_
                    refine mv_iload_n d_Reader_cut_60 rfl rfl ?_
                    refine mv_iload_n d_Reader_cut_61 rfl rfl ?_
                    obtain ⟨_, b70, -⟩ := I55.1 _ _ t59
                    refine mv_callV (kc' := 0) (ks' := 0) (As := [.int v19, .int i1_5, .int i3_24]) (st9 := [.int i3_24, .int i1_5, .int v19, .ref o0]) d_Reader_cut_62 lV_Reader_251 b70 rfl (tc_Reader_putToken_x (d := d) (x9 := x9) (o0 := o0) (x1 := v19) (x2 := i1_5) (x3 := i3_24) t59 (hB I55) h61 (by have k1 : p_st pb pn c6 = (i1_5.toInt).toNat := (h8.symm.trans (p_rn_end (fun h9 => by omega))); have k2 := p_tok (t := v19.toInt) (t9 := (i3_24.toInt).toNat) k1 (by omega) (by omega) (by first | exact Or.inl ⟨by omega, by omega⟩ | exact Or.inr ⟨by omega, iv6_24.symm.trans (p_rn_end (fun h9 => by omega))⟩); omega) (by have k1 : p_st pb pn c6 = (i1_5.toInt).toNat := (h8.symm.trans (p_rn_end (fun h9 => by omega))); have k2 := p_tok (t := v19.toInt) (t9 := (i3_24.toInt).toNat) k1 (by omega) (by omega) (by first | exact Or.inl ⟨by omega, by omega⟩ | exact Or.inr ⟨by omega, iv6_24.symm.trans (p_rn_end (fun h9 => by omega))⟩); omega) (by have k1 : p_st pb pn c6 = (i1_5.toInt).toNat := (h8.symm.trans (p_rn_end (fun h9 => by omega))); have k2 := p_tok (t := v19.toInt) (t9 := (i3_24.toInt).toNat) k1 (by omega) (by omega) (by first | exact Or.inl ⟨by omega, by omega⟩ | exact Or.inr ⟨by omega, iv6_24.symm.trans (p_rn_end (fun h9 => by omega))⟩); omega) (by have k1 : p_st pb pn c6 = (i1_5.toInt).toNat := (h8.symm.trans (p_rn_end (fun h9 => by omega))); have k2 := p_tok (t := v19.toInt) (t9 := (i3_24.toInt).toNat) k1 (by omega) (by omega) (by first | exact Or.inl ⟨by omega, by omega⟩ | exact Or.inr ⟨by omega, iv6_24.symm.trans (p_rn_end (fun h9 => by omega))⟩); omega) I55.start) rfl (Nat.le_of_ble_eq_true rfl) (Nat.le_of_ble_eq_true rfl) (Nat.le_of_ble_eq_true rfl) (hst := rfl) (fun b64r M65 n66 b64 => ?_)
                    obtain ⟨T67, J68, rfl, f71⟩ := b64
                    have I69 := I55.call J68 (tm_sub (by decide)) (Or.inl rfl)
                    have t72 := J68.up t59
                    have q73 := J68.keep t59 (by decide) q60
                    refine mv_iload_n d_Reader_cut_65 rfl rfl ?_
                    refine mv_istore_n (lv' := [(1, .int i3_24), (3, .int i3_24), (2, .int v19), (0, .ref o0)]) d_Reader_cut_66 rfl (by decide) rfl ?_
                    refine mv_goto (tgt := 7) d_Reader_cut_67 (by decide) ?_
                    have : (0 : Int32).toInt = 0 := by decide
                    refine mv_locals (lv' := [(1, .int i3_24), (0, .ref o0)]) (by intro q hq; simp only [List.mem_cons, List.not_mem_nil, or_false] at hq; rcases hq with rfl | rfl <;> rfl) ?_
                    exact (ih5 i3_24 T67 M65 n66 I69 t72 (by first | omega | decide) (by first | omega | decide) ⟨c6 + 1, f71, by have k1 : p_st pb pn c6 = (i1_5.toInt).toNat := (h8.symm.trans (p_rn_end (fun h9 => by omega))); have k2 := p_tok (t := v19.toInt) (t9 := (i3_24.toInt).toNat) k1 (by omega) (by omega) (by first | exact Or.inl ⟨by omega, by omega⟩ | exact Or.inr ⟨by omega, iv6_24.symm.trans (p_rn_end (fun h9 => by omega))⟩); exact p_st_on k2.2⟩ (by omega))
                · refine mv_iinc (v := (i3_24 + 1)) (lv' := [(3, .int (i3_24 + 1)), (2, .int v19), (1, .int i1_5), (0, .ref o0)]) d_Reader_cut_47 rfl rfl (by decide) rfl ?_
                  refine mv_goto (tgt := 25) d_Reader_cut_50 (by decide) ?_
                  have : (i3_24 + 1 : Int32).toInt = i3_24.toInt + 1 := mz_addn 1 1 (by decide) (by omega) (by omega)
                  have b74 : (i3_24 + 1).toInt = i3_24.toInt + 1 := mz_addn 1 1 (by decide) (by have := mz_lo i3_24; omega) (by have := mz_hi i3_24; omega)
                  exact (ih24 (i3_24 + 1) T53 M51 n52 I55 t59 (by first | omega | decide) (by first | omega | decide) (by first | omega | decide) (by first | omega | decide) (by first | omega | decide) (by first | omega | decide) (by rw [show ((i3_24 + 1).toInt).toNat = (i3_24.toInt).toNat + 1 from by omega, ← p_rn_on (by omega) (by omega)]; exact iv6_24) h61 (by omega))
        have : (i1_5 + 1 : Int32).toInt = i1_5.toInt + 1 := mz_addn 1 1 (by decide) (by omega) (by omega)
        have b75 : (i1_5 + 1).toInt = i1_5.toInt + 1 := mz_addn 1 1 (by decide) (by have := mz_lo i1_5; omega) (by have := mz_hi i1_5; omega)
        exact mv_less (Nat.zero_le _) (Nat.zero_le _) (L25_24 4294967296 (i1_5 + 1) T15 M13 n14 I17 t21 (by first | omega | decide) (by first | omega | decide) (by first | omega | decide) (by first | omega | decide) (by first | omega | decide) (by first | omega | decide) (by rw [show ((i1_5 + 1).toInt).toNat = (i1_5.toInt).toNat + 1 from by omega]) h23 (by have := mz_lo (i1_5 + 1); omega))
  have : (0 : Int32).toInt = 0 := by decide
  exact mv_less (Nat.zero_le _) (Nat.zero_le _) (L7_5 4294967296 0 T0 M1 n0 I2 h_o0 (by first | omega | decide) (by first | omega | decide) ⟨0, qR.nil ((tm_rv q3).trans (by decide)), by rw [show (0 : Int32).toInt = 0 from by decide]; rfl⟩ (by show (2147483647 - (0 : Int) : Int) < _; decide))
