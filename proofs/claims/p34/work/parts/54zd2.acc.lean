def w_Fund_takeAccount_f : List Nat := [664]
set_option maxHeartbeats 100000000 in theorem tc_Fund_takeAccount_f {g : mj_G} {l : Launch} {d : Nat} {T0 : tm_H} {M0 : mj_M} {n0 x9 : Nat} {o0 : Nat} {x1 : Int32} (h_o0 : T0 o0 = some (0, 6, 0)) {R1 : Nat} (t_R1 : T0 R1 = some (1, 5314, 101)) (yr : tm_at M0 o0 6 14 (.ref R1)) (I0 : tm_I tm_FT (tm_in w_Fund_takeAccount_f) x9 T0 M0 n0 T0 M0 n0) : mj_Met g l kY_Fund_takeAccount d [.ref o0, .int x1] M0 n0 0 0 (tm_Q tm_FT (tm_in w_Fund_takeAccount_f) x9 T0 M0 n0 (fun r _ M => ∃ v : Int32, r = some (.int v) ∧ 0 ≤ v.toInt ∧ v.toInt ≤ 1 ∧ ((v.toInt = 0 ∧ ¬ ((0 ≤ x1.toInt ∧ x1.toInt ≤ 100) ∧ ra M0 o0 14 x1.toInt.toNat = 0) ∧ ∀ R9 : Nat, T0 R9 = some (1, 5314, 101) → M R9 = M0 R9) ∨ (v.toInt = 1 ∧ ((0 ≤ x1.toInt ∧ x1.toInt ≤ 100) ∧ ra M0 o0 14 x1.toInt.toNat = 0) ∧ ∀ j : Nat, ra M o0 14 j = if j = x1.toInt.toNat then 1 else ra M0 o0 14 j)) ∧ (∀ R9 : Nat, T0 R9 = some (1, 5314, 101) → R9 ≠ R1 → M R9 = M0 R9))) := by
  refine mj_enter (by decide) (Nat.le_of_ble_eq_true rfl) ?_
  refine mv_iload_n d_Fund_takeAccount_0 rfl rfl ?_
  have := mz_hi x1
  refine mv_if_ltZ (tgt := 19) (a := x1.toInt) d_Fund_takeAccount_1 (by decide) rfl (fun b1 => ?_) (fun b1 => ?_)
  · refine mv_iconst (v := 0) d_Fund_takeAccount_19 (by decide) ?_
    exact mv_iret d_Fund_takeAccount_20 rfl (by decide) ⟨_, I0, _, rfl, by decide, by decide, Or.inl ⟨by decide, by omega, fun _ _ => rfl⟩, fun _ _ _ => rfl⟩
  · refine mv_iload_n d_Fund_takeAccount_4 rfl rfl ?_
    refine mv_bipush (v := 100) d_Fund_takeAccount_5 (by decide) ?_
    have := mz_hi x1
    refine mv_icmp_gtZ (tgt := 19) (a := x1.toInt) (b := 100) d_Fund_takeAccount_7 (by decide) rfl (by decide) (fun b2 => ?_) (fun b2 => ?_)
    · refine mv_iconst (v := 0) d_Fund_takeAccount_19 (by decide) ?_
      exact mv_iret d_Fund_takeAccount_20 rfl (by decide) ⟨_, I0, _, rfl, by decide, by decide, Or.inl ⟨by decide, by omega, fun _ _ => rfl⟩, fun _ _ _ => rfl⟩
    · refine mv_aload_n d_Fund_takeAccount_10 rfl rfl ?_
      refine tr_getK (k := 14) yr d_Fund_takeAccount_11 f_Fund_36_6 ?_
      refine mv_iload_n d_Fund_takeAccount_14 rfl rfl ?_
      refine tr_zaldC (o := o0) (c := 6) (k := 14) I0 yr t_R1 (by decide) d_Fund_takeAccount_15 (vp_in_iff.mpr (by omega)) (fun v3 e4 => ?_)
      have : v3.toInt = ra M0 o0 14 x1.toInt.toNat := by rw [e4, show x1.toNatClampNeg = x1.toInt.toNat from by have := mz_nat9 (i := x1) (by omega); omega]
      have := mz_hi v3
      refine mv_if_eqZ (tgt := 21) (a := v3.toInt) d_Fund_takeAccount_16 (by decide) rfl (fun b5 => ?_) (fun b5 => ?_)
      · refine mv_aload_n d_Fund_takeAccount_21 rfl rfl ?_
        refine tr_getK (k := 14) yr d_Fund_takeAccount_22 f_Fund_36_6 ?_
        refine mv_iload_n d_Fund_takeAccount_25 rfl rfl ?_
        refine mv_iconst (v := 1) d_Fund_takeAccount_26 (by decide) ?_
        refine tr_zastC (o := o0) (c := 6) (k := 14) I0 yr t_R1 (by decide) (Or.inl (by decide)) d_Fund_takeAccount_27 (vp_in_iff.mpr (by omega)) (fun M6 I7 K8 E9 K10 => ?_)
        refine mv_iconst (v := 1) d_Fund_takeAccount_28 (by decide) ?_
        exact mv_iret d_Fund_takeAccount_29 rfl (by decide) ⟨_, I7, _, rfl, by decide, by decide, Or.inr ⟨by decide, by omega, fun j => (E9 j).trans (by rw [show x1.toNatClampNeg = x1.toInt.toNat from by have := mz_nat9 (i := x1) (by omega); omega, show (vp_nar .boolean 1).toInt = 1 from by decide])⟩, fun R9 _ hx => K10 R9 hx⟩
      · refine mv_iconst (v := 0) d_Fund_takeAccount_19 (by decide) ?_
        exact mv_iret d_Fund_takeAccount_20 rfl (by decide) ⟨_, I0, _, rfl, by decide, by decide, Or.inl ⟨by decide, by omega, fun _ _ => rfl⟩, fun _ _ _ => rfl⟩
def w_TrustDesk_account_f : List Nat := [664, 1211]
set_option maxHeartbeats 100000000 in theorem tc_TrustDesk_account_f {g : mj_G} {l : Launch} {d : Nat} {T0 : tm_H} {M0 : mj_M} {n0 x9 : Nat} {o0 : Nat} {x1 : Int32} {x2 : Int32} (h_o0 : T0 o0 = some (0, 12, 0))  {La NR : Nat} {k : Int32} {A : Nat} {fr : Nat → Int} {va : Nat → Nat → Int} (h_La : T0 La = some (3, 1, o0)) (q_La : tm_at M0 o0 12 5 (.ref La)) (yk : tm_at M0 La 0 2 (.int k)) (yA : k.toInt = (A : Int)) (h_NR : T0 NR = some (0, 1, 0)) (q_NR : tm_at M0 o0 12 4 (.ref NR)) (yT : qT M0 La NR A fr va) (yf : ∀ i : Nat, i < A → 0 ≤ fr i) {Lg F : Nat} {kf kc t : Int32} {R : Nat → Nat} {G : Nat → Nat → Int} (h_Lg : T0 Lg = some (3, 6, o0)) (q_Lg : tm_at M0 o0 12 6 (.ref Lg)) (ykf : tm_at M0 Lg 0 2 (.int kf)) (yF : kf.toInt = (F : Int)) (yG : qG M0 Lg F R G) (ykc : tm_at M0 o0 12 11 (.int kc)) (yt : tm_at M0 o0 12 12 (.int t)) (yt9 : 0 ≤ t.toInt ∧ t.toInt ≤ 36000) (yv : ∀ day : Int, 0 ≤ p_told fr va day A 3 ∧ p_told fr va day A 3 ≤ 720) (I0 : tm_I tm_FT (tm_in w_TrustDesk_account_f) x9 T0 M0 n0 T0 M0 n0) : mj_Met g l kY_TrustDesk_account (d + 4) [.ref o0, .int x1, .int x2] M0 n0 0 0 (tm_Q tm_FT (tm_in w_TrustDesk_account_f) x9 T0 M0 n0 (fun r _ M => ∃ v : Int32, r = some (.int v) ∧ ((v.toInt = -1 ∧ ¬ (0 ≤ x1.toInt ∧ x1.toInt < kf.toInt ∧ 0 ≤ x2.toInt ∧ x2.toInt ≤ 100 ∧ 360 * (x2.toInt + 1) ≤ t.toInt ∧ G x1.toInt.toNat x2.toInt.toNat = 0 ∧ kc.toInt < 200) ∧ tm_at M o0 12 11 (.int kc) ∧ qG M Lg F R G) ∨ ((0 ≤ x1.toInt ∧ x1.toInt < kf.toInt ∧ 0 ≤ x2.toInt ∧ x2.toInt ≤ 100 ∧ 360 * (x2.toInt + 1) ≤ t.toInt ∧ G x1.toInt.toNat x2.toInt.toNat = 0 ∧ kc.toInt < 200) ∧ (∃ c1 : Int32, tm_at M o0 12 11 (.int c1) ∧ c1.toInt = kc.toInt + 1) ∧ qG M Lg F R (p_gv G x1.toInt.toNat x2.toInt.toNat) ∧ ((v.toInt = 0 ∧ (t.toInt - (360 * x2.toInt + 359) - p_told fr va (360 * x2.toInt + 359) A 3) ≤ 0) ∨ (v.toInt = (t.toInt - (360 * x2.toInt + 359) - p_told fr va (360 * x2.toInt + 359) A 3) ∧ 0 < (t.toInt - (360 * x2.toInt + 359) - p_told fr va (360 * x2.toInt + 359) A 3))))))) := by
  refine mj_enter (by decide) (Nat.le_of_ble_eq_true rfl) ?_
  have hT : ∀ {T : tm_H} {M : mj_M} {n : Nat}, tm_I tm_FT (tm_in w_TrustDesk_account_f) x9 T0 M0 n0 T M n → qT M La NR A fr va := fun I => yT.keep I0.1 I h_NR h_La (by decide +kernel) (by decide +kernel) (by decide +kernel) (by decide +kernel)
  have := mz_lo kc
  refine mv_aload_n d_TrustDesk_account_0 rfl rfl ?_
  refine mv_iload_n d_TrustDesk_account_1 rfl rfl ?_
  obtain ⟨_, b1, -⟩ := I0.1 _ _ h_o0
  refine mv_callV (kc1 := 0) (ks1 := 0) (kc' := 0) (ks' := 0) (As := [.int x1]) (st9 := [.int x1, .ref o0]) d_TrustDesk_account_2 lV_TrustDesk_257 b1 rfl (mj_enter (by decide) (Nat.le_of_ble_eq_true rfl) ?_) rfl (Nat.le_of_ble_eq_true rfl) (Nat.le_of_ble_eq_true rfl) (Nat.le_of_ble_eq_true rfl) (hst := rfl) (fun _ _ _ h => h)
  refine mv_iload_n d_TrustDesk_fundAt_0 rfl rfl ?_
  have := mz_hi x1
  refine mv_if_ltZ (tgt := 29) (a := x1.toInt) d_TrustDesk_fundAt_1 (by decide) rfl (fun b2 => ?_) (fun b2 => ?_)
  · refine mv_null d_TrustDesk_fundAt_29 ?_
    refine mv_aret (r := none) d_TrustDesk_fundAt_30 rfl (by first | exact Or.inl ⟨_, rfl⟩ | exact Or.inr ⟨_, rfl⟩) ?_
    refine mv_astore_nN (lv' := [(3, .null), (0, .ref o0), (1, .int x1), (2, .int x2)]) d_TrustDesk_account_5 rfl (by decide) rfl ?_
    refine mv_aload_nN d_TrustDesk_account_6 rfl rfl ?_
    refine mv_ifnullN (tgt := 46) d_TrustDesk_account_7 (by decide) ?_
    refine mv_iconst (v := (-1)) d_TrustDesk_account_46 (by decide) ?_
    exact mv_iret d_TrustDesk_account_47 rfl (by first | rfl | decide) ⟨_, I0, _, rfl, Or.inl ⟨by decide, by omega, ykc, yG⟩⟩
  · refine mv_iload_n d_TrustDesk_fundAt_4 rfl rfl ?_
    refine mv_aload_n d_TrustDesk_fundAt_5 rfl rfl ?_
    refine tr_getK (k := 6) q_Lg d_TrustDesk_fundAt_6 f_TrustDesk_53_12 ?_
    obtain ⟨m4, e5, N6, f7, h3⟩ := tm_lsn I0 h_Lg ykf
    refine mv_callV_s (kc' := 0) (ks' := 0) [] [.ref Lg, .int x1] d_TrustDesk_fundAt_9 lV_TrustDesk_97 h3.1 rfl (tc_L_size (d := (d + 2)) h3.1) rfl (Nat.le_of_ble_eq_true rfl) (Nat.le_of_ble_eq_true rfl) (Nat.le_of_ble_eq_true rfl) rfl ?_
    have := mz_hi x1
    have := mz_hi kf
    refine mv_icmp_geZ (tgt := 29) (a := x1.toInt) (b := kf.toInt) d_TrustDesk_fundAt_12 (by decide) rfl rfl (fun b8 => ?_) (fun b8 => ?_)
    · refine mv_null d_TrustDesk_fundAt_29 ?_
      refine mv_aret (r := none) d_TrustDesk_fundAt_30 rfl (by first | exact Or.inl ⟨_, rfl⟩ | exact Or.inr ⟨_, rfl⟩) ?_
      refine mv_astore_nN (lv' := [(3, .null), (0, .ref o0), (1, .int x1), (2, .int x2)]) d_TrustDesk_account_5 rfl (by decide) rfl ?_
      refine mv_aload_nN d_TrustDesk_account_6 rfl rfl ?_
      refine mv_ifnullN (tgt := 46) d_TrustDesk_account_7 (by decide) ?_
      refine mv_iconst (v := (-1)) d_TrustDesk_account_46 (by decide) ?_
      exact mv_iret d_TrustDesk_account_47 rfl (by first | rfl | decide) ⟨_, I0, _, rfl, Or.inl ⟨by decide, by omega, ykc, yG⟩⟩
    · refine mv_aload_n d_TrustDesk_fundAt_15 rfl rfl ?_
      refine tr_getK (k := 6) q_Lg d_TrustDesk_fundAt_16 f_TrustDesk_53_12 ?_
      refine mv_iload_n d_TrustDesk_fundAt_19 rfl rfl ?_
      obtain ⟨m10, e11, N12, f13, h9⟩ := tm_lsn I0 h_Lg ykf
      obtain ⟨a15, g16, q17, q18⟩ := yG.2 x1.toInt.toNat (by omega)
      obtain ⟨-, f20, t_a15⟩ := tm_ge.el h9 g16
      have h19 : x1.toNatClampNeg = x1.toInt.toNat := by have := mz_nat9 (i := x1) (by omega); omega
      rw [← h19] at f20
      obtain ⟨u14e, u14i, -⟩ := tm_el (i := x1) h9 (by omega) (by omega)
      refine mv_callV_s (kc' := 0) (ks' := 0) [.int x1] [.int x1, .ref Lg] d_TrustDesk_fundAt_20 lV_TrustDesk_158 h9.1 rfl (tc_L_get (d := d) h9.1 u14e (by omega) (by omega) u14i f20) rfl (Nat.le_of_ble_eq_true rfl) (Nat.le_of_ble_eq_true rfl) (Nat.le_of_ble_eq_true rfl) rfl ?_
      obtain ⟨_, b21, -⟩ := I0.1 _ _ t_a15
      refine mv_castS (T9 := kF_Fund) (N := 15) d_TrustDesk_fundAt_23 (mj_in1 (List.mem_of_getElem? (i := 655) (by decide +kernel)) rfl) b21 rfl ?_
      refine mv_goto (tgt := 30) d_TrustDesk_fundAt_26 (by decide) ?_
      refine mv_aret (r := (some a15)) d_TrustDesk_fundAt_30 rfl (by first | exact Or.inl ⟨_, rfl⟩ | exact Or.inr ⟨_, rfl⟩) ?_
      refine mv_astore_n (lv' := [(3, .ref a15), (0, .ref o0), (1, .int x1), (2, .int x2)]) d_TrustDesk_account_5 rfl (by decide) rfl ?_
      refine mv_aload_n d_TrustDesk_account_6 rfl rfl ?_
      refine mv_ifnull d_TrustDesk_account_7 ?_
      refine mv_iload_n d_TrustDesk_account_10 rfl rfl ?_
      refine mv_callS (kc1 := 0) (ks1 := 0) (kc' := 0) (ks' := 0) (As := [.int x2]) (st9 := [.int x2]) d_TrustDesk_account_11 lS_TrustDesk_70 (mj_enter (by decide) (Nat.le_of_ble_eq_true rfl) ?_) rfl (Nat.le_of_ble_eq_true rfl) (Nat.le_of_ble_eq_true rfl) (Nat.le_of_ble_eq_true rfl) (hst := rfl) (fun _ _ _ h => h)
      refine mv_iload_n d_TrustDesk_isYear_0 rfl rfl ?_
      have := mz_hi x2
      refine mv_if_ltZ (tgt := 14) (a := x2.toInt) d_TrustDesk_isYear_1 (by decide) rfl (fun b22 => ?_) (fun b22 => ?_)
      · refine mv_iconst (v := 0) d_TrustDesk_isYear_14 (by decide) ?_
        refine mv_iret d_TrustDesk_isYear_15 rfl (by decide) ?_
        refine mv_if_eq_t (tgt := 46) d_TrustDesk_account_14 (by decide) (by decide) ?_
        refine mv_iconst (v := (-1)) d_TrustDesk_account_46 (by decide) ?_
        exact mv_iret d_TrustDesk_account_47 rfl (by first | rfl | decide) ⟨_, I0, _, rfl, Or.inl ⟨by decide, by omega, ykc, yG⟩⟩
      · refine mv_iload_n d_TrustDesk_isYear_4 rfl rfl ?_
        refine mv_bipush (v := 100) d_TrustDesk_isYear_5 (by decide) ?_
        have := mz_hi x2
        refine mv_icmp_gtZ (tgt := 14) (a := x2.toInt) (b := 100) d_TrustDesk_isYear_7 (by decide) rfl (by decide) (fun b23 => ?_) (fun b23 => ?_)
        · refine mv_iconst (v := 0) d_TrustDesk_isYear_14 (by decide) ?_
          refine mv_iret d_TrustDesk_isYear_15 rfl (by decide) ?_
          refine mv_if_eq_t (tgt := 46) d_TrustDesk_account_14 (by decide) (by decide) ?_
          refine mv_iconst (v := (-1)) d_TrustDesk_account_46 (by decide) ?_
          exact mv_iret d_TrustDesk_account_47 rfl (by first | rfl | decide) ⟨_, I0, _, rfl, Or.inl ⟨by decide, by omega, ykc, yG⟩⟩
        · refine mv_iconst (v := 1) d_TrustDesk_isYear_10 (by decide) ?_
          refine mv_goto (tgt := 15) d_TrustDesk_isYear_11 (by decide) ?_
          refine mv_iret d_TrustDesk_isYear_15 rfl (by decide) ?_
          refine mv_if_eq_f (tgt := 46) d_TrustDesk_account_14 (by decide) (by decide) ?_
          refine mv_iload_n d_TrustDesk_account_17 rfl rfl ?_
          refine mv_callS (kc1 := 0) (ks1 := 0) (kc' := 0) (ks' := 0) (As := [.int x2]) (st9 := [.int x2]) d_TrustDesk_account_18 lS_TrustDesk_151 (mj_enter (by decide) (Nat.le_of_ble_eq_true rfl) ?_) rfl (Nat.le_of_ble_eq_true rfl) (Nat.le_of_ble_eq_true rfl) (Nat.le_of_ble_eq_true rfl) (hst := rfl) (fun _ _ _ h => h)
          refine mv_iload_n d_TrustDesk_lastDayOf_0 rfl rfl ?_
          refine mv_sipush (v := 360) d_TrustDesk_lastDayOf_1 (by decide) ?_
          refine mv_imul d_TrustDesk_lastDayOf_4 ?_
          refine mv_sipush (v := 360) d_TrustDesk_lastDayOf_5 (by decide) ?_
          refine mv_iadd d_TrustDesk_lastDayOf_8 ?_
          refine mv_iconst (v := 1) d_TrustDesk_lastDayOf_9 (by decide) ?_
          refine mv_isub d_TrustDesk_lastDayOf_10 ?_
          refine mv_iret d_TrustDesk_lastDayOf_11 rfl (by first | rfl | decide) ?_
          refine mv_aload_n d_TrustDesk_account_21 rfl rfl ?_
          refine tr_getK (k := 12) yt d_TrustDesk_account_22 f_TrustDesk_73_12 ?_
          have b24 : (x2 * 360 : Int32).toInt = (x2.toInt * 360) := mz_mul2 rfl (by decide) (by omega) (by omega)
          have b25 : ((x2 * 360) + 360 : Int32).toInt = ((x2.toInt * 360) + 360) := mz_add2 b24 (by decide) (by omega) (by omega)
          have b26 : (((x2 * 360) + 360) - 1 : Int32).toInt = (((x2.toInt * 360) + 360) - 1) := mz_sub2 b25 (by decide) (by omega) (by omega)
          have := mz_hi (((x2 * 360) + 360) - 1)
          have := mz_hi t
          refine mv_icmp_geZ (tgt := 46) (a := (((x2 * 360) + 360) - 1).toInt) (b := t.toInt) d_TrustDesk_account_25 (by decide) rfl rfl (fun b27 => ?_) (fun b27 => ?_)
          · refine mv_iconst (v := (-1)) d_TrustDesk_account_46 (by decide) ?_
            exact mv_iret d_TrustDesk_account_47 rfl (by first | rfl | decide) ⟨_, I0, _, rfl, Or.inl ⟨by decide, by omega, ykc, yG⟩⟩
          · refine mv_aload_n d_TrustDesk_account_28 rfl rfl ?_
            refine tr_getK (k := 11) ykc d_TrustDesk_account_29 f_TrustDesk_509_12 ?_
            refine mv_sipush (v := 200) d_TrustDesk_account_32 (by decide) ?_
            have := mz_hi kc
            refine mv_icmp_geZ (tgt := 46) (a := kc.toInt) (b := 200) d_TrustDesk_account_35 (by decide) rfl (by decide) (fun b28 => ?_) (fun b28 => ?_)
            · refine mv_iconst (v := (-1)) d_TrustDesk_account_46 (by decide) ?_
              exact mv_iret d_TrustDesk_account_47 rfl (by first | rfl | decide) ⟨_, I0, _, rfl, Or.inl ⟨by decide, by omega, ykc, yG⟩⟩
            · refine mv_aload_n d_TrustDesk_account_38 rfl rfl ?_
              refine mv_iload_n d_TrustDesk_account_39 rfl rfl ?_
              obtain ⟨_, b35, -⟩ := I0.1 _ _ t_a15
              have t_R36 := tm_ga I0.1 t_a15 q17
              refine mv_callV (kc' := 0) (ks' := 0) (As := [.int x2]) (st9 := [.int x2, .ref a15]) d_TrustDesk_account_40 lV_TrustDesk_512 b35 rfl (tc_Fund_takeAccount_f (d := (d + 3)) (x9 := x9) (o0 := a15) (x1 := x2) t_a15 t_R36 q17 I0.start) rfl (Nat.le_of_ble_eq_true rfl) (Nat.le_of_ble_eq_true rfl) (Nat.le_of_ble_eq_true rfl) (hst := rfl) (fun b29r M30 n31 b29 => ?_)
              obtain ⟨T32, J33, v37, rfl, b38, b39, D40, U41⟩ := b29
              have I34 := I0.call J33 (tm_sub (by decide)) (Or.inl rfl)
              have t42 := J33.up t_a15
              have t43 := J33.up h_o0
              have q44 := J33.keep h_o0 (by decide) q_La
              have t45 := J33.up h_La
              have q46 := J33.keepL h_La (by decide) yk
              have q47 := J33.keep h_o0 (by decide) q_NR
              have t48 := J33.up h_NR
              have q49 := J33.keep h_o0 (by decide) q_Lg
              have t50 := J33.up h_Lg
              have q51 := J33.keepL h_Lg (by decide) ykf
              have q52 := J33.keep h_o0 (by decide) ykc
              have q53 := J33.keep h_o0 (by decide) yt
              have Q54 := yG.take (X := x1.toInt.toNat) (Y := x2.toInt.toNat) I0.1 J33 (I0.up h_Lg) (by decide) (by decide) (by omega) g16 q18 (by omega) (by omega) D40 U41
              have := mz_hi v37
              refine mv_if_neZ (tgt := 48) (a := v37.toInt) d_TrustDesk_account_43 (by decide) rfl (fun b55 => ?_) (fun b55 => ?_)
              · refine mv_aload_n d_TrustDesk_account_48 rfl rfl ?_
                refine mv_dup d_TrustDesk_account_49 rfl ?_
                refine tr_getK (k := 11) q52 d_TrustDesk_account_50 f_TrustDesk_509_12 ?_
                refine mv_iconst (v := 1) d_TrustDesk_account_53 (by decide) ?_
                refine mv_iadd d_TrustDesk_account_54 ?_
                refine tr_putKM tm_okF I34 t43 (k := 11) rfl ⟨_, rfl⟩ (Or.inl (by decide)) d_TrustDesk_account_55 p_TrustDesk_509_12 rfl rfl (fun M56 I57 q58 K59 K59M => ?_)
                obtain ⟨e61, G60⟩ : G x1.toInt.toNat x2.toInt.toNat = 0 ∧ qG M30 Lg F R (p_gv G x1.toInt.toNat x2.toInt.toNat) := by rcases Q54 with ⟨e9, _⟩ | ⟨_, e9, q9⟩; exact absurd e9 (by omega); exact ⟨e9, q9⟩
                have G62 : qG M56 Lg F R (p_gv G x1.toInt.toNat x2.toInt.toNat) := G60.at12 I34.1 (I34.up h_Lg) t43 K59M
                refine mv_iload_n d_TrustDesk_account_58 rfl rfl ?_
                refine mv_callS (kc1 := 0) (ks1 := 0) (kc' := 0) (ks' := 0) (As := [.int x2]) (st9 := [.int x2]) d_TrustDesk_account_59 lS_TrustDesk_151 (mj_enter (by decide) (Nat.le_of_ble_eq_true rfl) ?_) rfl (Nat.le_of_ble_eq_true rfl) (Nat.le_of_ble_eq_true rfl) (Nat.le_of_ble_eq_true rfl) (hst := rfl) (fun _ _ _ h => h)
                refine mv_iload_n d_TrustDesk_lastDayOf_0 rfl rfl ?_
                refine mv_sipush (v := 360) d_TrustDesk_lastDayOf_1 (by decide) ?_
                refine mv_imul d_TrustDesk_lastDayOf_4 ?_
                refine mv_sipush (v := 360) d_TrustDesk_lastDayOf_5 (by decide) ?_
                refine mv_iadd d_TrustDesk_lastDayOf_8 ?_
                refine mv_iconst (v := 1) d_TrustDesk_lastDayOf_9 (by decide) ?_
                refine mv_isub d_TrustDesk_lastDayOf_10 ?_
                refine mv_iret d_TrustDesk_lastDayOf_11 rfl (by first | rfl | decide) ?_
                refine mv_istore (lv' := [(4, .int (((x2 * 360) + 360) - 1)), (3, .ref a15), (0, .ref o0), (1, .int x1), (2, .int x2)]) d_TrustDesk_account_62 (by decide) rfl ?_
                refine mv_aload_n d_TrustDesk_account_64 rfl rfl ?_
                refine tr_getK (k := 12) (K59 _ 12 12 _ rfl q53) d_TrustDesk_account_65 f_TrustDesk_73_12 ?_
                refine mv_iload d_TrustDesk_account_68 rfl ?_
                refine mv_isub d_TrustDesk_account_70 ?_
                refine mv_aload_n d_TrustDesk_account_71 rfl rfl ?_
                refine mv_iload d_TrustDesk_account_72 rfl ?_
                obtain ⟨_, b69, -⟩ := I57.1 _ _ t43
                refine mv_callV (kc' := 0) (ks' := 0) (As := [.int (((x2 * 360) + 360) - 1)]) (st9 := [.int (((x2 * 360) + 360) - 1), .ref o0, .int (t - (((x2 * 360) + 360) - 1))]) d_TrustDesk_account_74 lV_TrustDesk_114 b69 rfl (tc_TrustDesk_inForce_a (d := d) (x9 := x9) (o0 := o0) (x1 := (((x2 * 360) + 360) - 1)) t43 t45 (K59 _ 12 5 _ rfl q44) (K59 _ 0 2 _ rfl q46) yA t48 (K59 _ 12 4 _ rfl q47) (hT I57) yf I57.start) rfl (Nat.le_of_ble_eq_true rfl) (Nat.le_of_ble_eq_true rfl) (Nat.le_of_ble_eq_true rfl) (hst := rfl) (fun b63r M64 n65 b63 => ?_)
                obtain ⟨T66, J67, a70, rfl, t_a70, f71⟩ := b63
                have I68 := I57.call J67 (tm_sub (by decide)) (Or.inl rfl)
                have t72 := J67.up t42
                have t73 := J67.up t43
                have G74 : qG M64 Lg F R (p_gv G x1.toInt.toNat x2.toInt.toNat) := G62.keep I57.1 J67 (I57.up h_Lg) (by decide) (by decide) (by decide)
                have q75 := J67.keep t43 (by decide) (K59 _ 12 5 _ rfl q44)
                have t76 := J67.up t45
                have q77 := J67.keepL t45 (by decide) (K59 _ 0 2 _ rfl q46)
                have q78 := J67.keep t43 (by decide) (K59 _ 12 4 _ rfl q47)
                have t79 := J67.up t48
                have q80 := J67.keep t43 (by decide) (K59 _ 12 6 _ rfl q49)
                have t81 := J67.up t50
                have q82 := J67.keepL t50 (by decide) (K59 _ 0 2 _ rfl q51)
                have q83 := J67.keep t43 (by decide) (K59 _ 12 12 _ rfl q53)
                have q84 := J67.keep t43 (by decide) q58
                obtain ⟨f85, q86, h87⟩ := f71
                refine mv_iconst (v := 3) d_TrustDesk_account_77 (by decide) ?_
                have : (3 : Int32).toInt = 3 := by decide
                obtain ⟨_, b94, -⟩ := I68.1 _ _ t_a70
                obtain ⟨v95, R96, q97, e98, q99, h100⟩ := q86
                have t_R96 := tm_rl9 I68.1 t_a70 q99
                refine mv_callV (kc' := 0) (ks' := 0) (As := [.int 3]) (st9 := [.int 3, .ref a70, .int (t - (((x2 * 360) + 360) - 1))]) d_TrustDesk_account_78 lV_TrustDesk_118 b94 rfl (tc_Act_rule_a (d := (d + 3)) (x9 := x9) (o0 := a70) (x1 := 3) t_a70 t_R96 q99 h100 (by omega) I68.start) rfl (Nat.le_of_ble_eq_true rfl) (Nat.le_of_ble_eq_true rfl) (Nat.le_of_ble_eq_true rfl) (hst := rfl) (fun b88r M89 n90 b88 => ?_)
                obtain ⟨T91, J92, v101, rfl, f102⟩ := b88
                have I93 := I68.call J92 (tm_sub (by decide)) (Or.inl rfl)
                have t103 := J92.up t72
                have t104 := J92.up t73
                have G105 : qG M89 Lg F R (p_gv G x1.toInt.toNat x2.toInt.toNat) := G74.keep I68.1 J92 (I68.up h_Lg) (by decide) (by decide) (by decide)
                have q106 := J92.keep t73 (by decide) q75
                have t107 := J92.up t76
                have q108 := J92.keepL t76 (by decide) q77
                have q109 := J92.keep t73 (by decide) q78
                have t110 := J92.up t79
                have q111 := J92.keep t73 (by decide) q80
                have t112 := J92.up t81
                have q113 := J92.keepL t81 (by decide) q82
                have q114 := J92.keep t73 (by decide) q83
                have q115 := J92.keep t73 (by decide) q84
                have : v101.toInt = p_told fr va (360 * x2.toInt + 359) A 3 := by have e9 : v101.toInt = p_told fr va (((x2 * 360) + 360) - 1 : Int32).toInt A ((3 : Int32).toInt).toNat := f102; rw [show ((3 : Int32).toInt).toNat = 3 from by decide, show (((x2 * 360) + 360) - 1 : Int32).toInt = (360 * x2.toInt + 359) from by omega] at e9; exact e9
                have := yv (360 * x2.toInt + 359)
                refine mv_isub d_TrustDesk_account_81 ?_
                refine mv_istore (lv' := [(5, .int ((t - (((x2 * 360) + 360) - 1)) - v101)), (4, .int (((x2 * 360) + 360) - 1)), (3, .ref a15), (0, .ref o0), (1, .int x1), (2, .int x2)]) d_TrustDesk_account_82 (by decide) rfl ?_
                refine mv_iload d_TrustDesk_account_84 rfl ?_
                have b116 : (x2 * 360 : Int32).toInt = (x2.toInt * 360) := mz_mul2 rfl (by decide) (by omega) (by omega)
                have b117 : ((x2 * 360) + 360 : Int32).toInt = ((x2.toInt * 360) + 360) := mz_add2 b116 (by decide) (by omega) (by omega)
                have b118 : (((x2 * 360) + 360) - 1 : Int32).toInt = (((x2.toInt * 360) + 360) - 1) := mz_sub2 b117 (by decide) (by omega) (by omega)
                have b119 : (t - (((x2 * 360) + 360) - 1) : Int32).toInt = (t.toInt - (((x2.toInt * 360) + 360) - 1)) := mz_sub2 rfl b118 (by omega) (by omega)
                have b120 : ((t - (((x2 * 360) + 360) - 1)) - v101 : Int32).toInt = ((t.toInt - (((x2.toInt * 360) + 360) - 1)) - v101.toInt) := mz_sub2 b119 rfl (by omega) (by omega)
                have := mz_hi ((t - (((x2 * 360) + 360) - 1)) - v101)
                refine mv_if_leZ (tgt := 94) (a := ((t - (((x2 * 360) + 360) - 1)) - v101).toInt) d_TrustDesk_account_86 (by decide) rfl (fun b121 => ?_) (fun b121 => ?_)
                · refine mv_iconst (v := 0) d_TrustDesk_account_94 (by decide) ?_
                  exact mv_iret d_TrustDesk_account_95 rfl (by first | rfl | decide) ⟨_, I93, _, rfl, Or.inr ⟨by omega, ⟨_, q115, by have := mz_addn (x := kc) 1 1 (by decide) (by omega) (by omega); omega⟩, G105, (by have e9 : (0 : Int32).toInt = 0 := (by decide); omega)⟩⟩
                · refine mv_iload d_TrustDesk_account_89 rfl ?_
                  refine mv_goto (tgt := 95) d_TrustDesk_account_91 (by decide) ?_
                  exact mv_iret d_TrustDesk_account_95 rfl (by first | rfl | decide) ⟨_, I93, _, rfl, Or.inr ⟨by omega, ⟨_, q115, by have := mz_addn (x := kc) 1 1 (by decide) (by omega) (by omega); omega⟩, G105, (by omega)⟩⟩
              · refine mv_iconst (v := (-1)) d_TrustDesk_account_46 (by decide) ?_
                exact mv_iret d_TrustDesk_account_47 rfl (by first | rfl | decide) ⟨_, I34, _, rfl, (by rcases Q54 with ⟨_, e9, q9⟩ | ⟨e9, _⟩; exact Or.inl ⟨by decide, by omega, q52, q9⟩; exfalso; omega)⟩
