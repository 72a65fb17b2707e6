def w_Scheme_takeObjection_h : List Nat := [1107, 1160]
set_option maxHeartbeats 100000000 in theorem tc_Scheme_takeObjection_h {g : mj_G} {l : Launch} {d : Nat} {T0 : tm_H} {M0 : mj_M} {n0 x9 : Nat} {o0 : Nat} {x1 : Int32} (h_o0 : T0 o0 = some (0, 11, 0)) {R1 : Nat} {c : Int32} (t_R1 : T0 R1 = some (1, 9282, 100)) (yr : tm_at M0 o0 11 10 (.ref R1)) (yc : tm_at M0 o0 11 7 (.int c)) (yc9 : 0 ≤ c.toInt ∧ c.toInt ≤ 10) (I0 : tm_I tm_FT (tm_in w_Scheme_takeObjection_h) x9 T0 M0 n0 T0 M0 n0) : mj_Met g l kY_Scheme_takeObjection d [.ref o0, .int x1] M0 n0 0 0 (tm_Q tm_FT (tm_in w_Scheme_takeObjection_h) x9 T0 M0 n0 (fun r _ M => ∃ v : Int32, r = some (.int v) ∧ 0 ≤ v.toInt ∧ v.toInt ≤ 1 ∧ ((v.toInt = 0 ∧ ¬ ((0 ≤ x1.toInt ∧ x1.toInt ≤ 99) ∧ (ra M0 o0 10 x1.toInt.toNat = 0 ∧ c.toInt < 10)) ∧ M = M0) ∨ (v.toInt = 1 ∧ ((0 ≤ x1.toInt ∧ x1.toInt ≤ 99) ∧ (ra M0 o0 10 x1.toInt.toNat = 0 ∧ c.toInt < 10)) ∧ (∀ j : Nat, ra M o0 10 j = if j = x1.toInt.toNat then 1 else ra M0 o0 10 j) ∧ ∃ c1 : Int32, tm_at M o0 11 7 (.int c1) ∧ c1.toInt = c.toInt + (if (1 : Int) = 0 then 0 else 1) - (if ra M0 o0 10 x1.toInt.toNat = 0 then 0 else 1))) ∧ (∀ b : Nat, T0 b = some (0, 11, 0) → b ≠ o0 → M b = M0 b) ∧ (∀ R9 : Nat, T0 R9 = some (1, 9282, 100) → R9 ≠ R1 → M R9 = M0 R9))) := by
  refine mj_enter (by decide) (Nat.le_of_ble_eq_true rfl) ?_
  refine mv_iload_n d_Scheme_takeObjection_0 rfl rfl ?_
  have := mz_hi x1
  refine mv_if_ltZ (tgt := 28) (a := x1.toInt) d_Scheme_takeObjection_1 (by decide) rfl (fun b1 => ?_) (fun b1 => ?_)
  · refine mv_iconst (v := 0) d_Scheme_takeObjection_28 (by decide) ?_
    exact mv_iret d_Scheme_takeObjection_29 rfl (by decide) ⟨_, I0, _, rfl, by decide, by decide, Or.inl ⟨by decide, by omega, rfl⟩, (fun _ _ _ => rfl), fun _ _ _ => rfl⟩
  · refine mv_iload_n d_Scheme_takeObjection_4 rfl rfl ?_
    refine mv_bipush (v := 100) d_Scheme_takeObjection_5 (by decide) ?_
    have := mz_hi x1
    refine mv_icmp_geZ (tgt := 28) (a := x1.toInt) (b := 100) d_Scheme_takeObjection_7 (by decide) rfl (by decide) (fun b2 => ?_) (fun b2 => ?_)
    · refine mv_iconst (v := 0) d_Scheme_takeObjection_28 (by decide) ?_
      exact mv_iret d_Scheme_takeObjection_29 rfl (by decide) ⟨_, I0, _, rfl, by decide, by decide, Or.inl ⟨by decide, by omega, rfl⟩, (fun _ _ _ => rfl), fun _ _ _ => rfl⟩
    · refine mv_aload_n d_Scheme_takeObjection_10 rfl rfl ?_
      refine tr_getK (k := 10) yr d_Scheme_takeObjection_11 f_Scheme_15_11 ?_
      refine mv_iload_n d_Scheme_takeObjection_14 rfl rfl ?_
      refine tr_zaldC (o := o0) (c := 11) (k := 10) I0 yr t_R1 (by decide) d_Scheme_takeObjection_15 (vp_in_iff.mpr (by omega)) (fun v3 e4 => ?_)
      have : v3.toInt = ra M0 o0 10 x1.toInt.toNat := by rw [e4, show x1.toNatClampNeg = x1.toInt.toNat from by have := mz_nat9 (i := x1) (by omega); omega]
      have := mz_hi v3
      refine mv_if_neZ (tgt := 28) (a := v3.toInt) d_Scheme_takeObjection_16 (by decide) rfl (fun b5 => ?_) (fun b5 => ?_)
      · refine mv_iconst (v := 0) d_Scheme_takeObjection_28 (by decide) ?_
        exact mv_iret d_Scheme_takeObjection_29 rfl (by decide) ⟨_, I0, _, rfl, by decide, by decide, Or.inl ⟨by decide, by omega, rfl⟩, (fun _ _ _ => rfl), fun _ _ _ => rfl⟩
      · refine mv_aload_n d_Scheme_takeObjection_19 rfl rfl ?_
        refine tr_getK (k := 7) yc d_Scheme_takeObjection_20 f_Scheme_38_11 ?_
        refine mv_bipush (v := 10) d_Scheme_takeObjection_23 (by decide) ?_
        have := mz_hi c
        refine mv_icmp_ltZ (tgt := 30) (a := c.toInt) (b := 10) d_Scheme_takeObjection_25 (by decide) rfl (by decide) (fun b6 => ?_) (fun b6 => ?_)
        · refine mv_aload_n d_Scheme_takeObjection_30 rfl rfl ?_
          refine tr_getK (k := 10) yr d_Scheme_takeObjection_31 f_Scheme_15_11 ?_
          refine mv_iload_n d_Scheme_takeObjection_34 rfl rfl ?_
          refine mv_iconst (v := 1) d_Scheme_takeObjection_35 (by decide) ?_
          refine tr_zastC (o := o0) (c := 11) (k := 10) I0 yr t_R1 (by decide) (Or.inl (by decide)) d_Scheme_takeObjection_36 (vp_in_iff.mpr (by omega)) (fun M7 I8 K9 E10 K11 => ?_)
          refine mv_aload_n d_Scheme_takeObjection_37 rfl rfl ?_
          refine mv_dup d_Scheme_takeObjection_38 rfl ?_
          refine tr_getK (k := 7) (K9 _ 11 7 _ yc) d_Scheme_takeObjection_39 f_Scheme_38_11 ?_
          refine mv_iconst (v := 1) d_Scheme_takeObjection_42 (by decide) ?_
          refine mv_iadd d_Scheme_takeObjection_43 ?_
          refine tr_putKM tm_okF I8 h_o0 (k := 7) rfl ⟨_, rfl⟩ (Or.inl (by decide)) d_Scheme_takeObjection_44 p_Scheme_38_11 rfl rfl (fun M12 I13 q14 K15 K15M => ?_)
          have E16 : ∀ j : Nat, ra M12 o0 10 j = if j = x1.toInt.toNat then 1 else ra M0 o0 10 j := fun j => (ra_g (K9 _ 11 10 _ yr) (K15 _ 11 10 _ rfl (K9 _ 11 10 _ yr)) (K15M _ (tm_dif t_R1 h_o0 rfl)) j).trans ((E10 j).trans (by rw [show x1.toNatClampNeg = x1.toInt.toNat from by have := mz_nat9 (i := x1) (by omega); omega, show (vp_nar .boolean 1).toInt = 1 from by decide]))
          have F17 : ∀ b : Nat, T0 b = some (0, 11, 0) → b ≠ o0 → M12 b = M0 b := fun b h hx => (K15M b hx).trans (K11 b (tm_dif h t_R1 rfl))
          have U18 : ∀ R9 : Nat, T0 R9 = some (1, 9282, 100) → R9 ≠ R1 → M12 R9 = M0 R9 := fun R9 h hx => (K15M R9 (tm_dif h h_o0 rfl)).trans (K11 R9 hx)
          refine mv_iconst (v := 1) d_Scheme_takeObjection_47 (by decide) ?_
          exact mv_iret d_Scheme_takeObjection_48 rfl (by decide) ⟨_, I13, _, rfl, by decide, by decide, Or.inr ⟨by decide, by omega, E16, _, q14, (by rw [if_neg (show ¬ (1 : Int) = 0 by decide), if_pos (show ra M0 o0 10 x1.toInt.toNat = 0 by omega)]; have := mz_addn (x := c) 1 1 (by decide) (by omega) (by omega); omega)⟩, F17, U18⟩
        · refine mv_iconst (v := 0) d_Scheme_takeObjection_28 (by decide) ?_
          exact mv_iret d_Scheme_takeObjection_29 rfl (by decide) ⟨_, I0, _, rfl, by decide, by decide, Or.inl ⟨by decide, by omega, rfl⟩, (fun _ _ _ => rfl), fun _ _ _ => rfl⟩
def w_Scheme_dropObjection_h : List Nat := [1107, 1160]
set_option maxHeartbeats 100000000 in theorem tc_Scheme_dropObjection_h {g : mj_G} {l : Launch} {d : Nat} {T0 : tm_H} {M0 : mj_M} {n0 x9 : Nat} {o0 : Nat} {x1 : Int32} (h_o0 : T0 o0 = some (0, 11, 0)) {R1 : Nat} {c : Int32} (t_R1 : T0 R1 = some (1, 9282, 100)) (yr : tm_at M0 o0 11 10 (.ref R1)) (yc : tm_at M0 o0 11 7 (.int c)) (yc9 : 0 ≤ c.toInt ∧ c.toInt ≤ 10) (I0 : tm_I tm_FT (tm_in w_Scheme_dropObjection_h) x9 T0 M0 n0 T0 M0 n0) : mj_Met g l kY_Scheme_dropObjection d [.ref o0, .int x1] M0 n0 0 0 (tm_Q tm_FT (tm_in w_Scheme_dropObjection_h) x9 T0 M0 n0 (fun r _ M => ∃ v : Int32, r = some (.int v) ∧ 0 ≤ v.toInt ∧ v.toInt ≤ 1 ∧ ((v.toInt = 0 ∧ ¬ ((0 ≤ x1.toInt ∧ x1.toInt ≤ 99) ∧ (ra M0 o0 10 x1.toInt.toNat ≠ 0)) ∧ M = M0) ∨ (v.toInt = 1 ∧ ((0 ≤ x1.toInt ∧ x1.toInt ≤ 99) ∧ (ra M0 o0 10 x1.toInt.toNat ≠ 0)) ∧ (∀ j : Nat, ra M o0 10 j = if j = x1.toInt.toNat then 0 else ra M0 o0 10 j) ∧ ∃ c1 : Int32, tm_at M o0 11 7 (.int c1) ∧ c1.toInt = c.toInt + (if (0 : Int) = 0 then 0 else 1) - (if ra M0 o0 10 x1.toInt.toNat = 0 then 0 else 1))) ∧ (∀ b : Nat, T0 b = some (0, 11, 0) → b ≠ o0 → M b = M0 b) ∧ (∀ R9 : Nat, T0 R9 = some (1, 9282, 100) → R9 ≠ R1 → M R9 = M0 R9))) := by
  refine mj_enter (by decide) (Nat.le_of_ble_eq_true rfl) ?_
  refine mv_iload_n d_Scheme_dropObjection_0 rfl rfl ?_
  have := mz_hi x1
  refine mv_if_ltZ (tgt := 19) (a := x1.toInt) d_Scheme_dropObjection_1 (by decide) rfl (fun b1 => ?_) (fun b1 => ?_)
  · refine mv_iconst (v := 0) d_Scheme_dropObjection_19 (by decide) ?_
    exact mv_iret d_Scheme_dropObjection_20 rfl (by decide) ⟨_, I0, _, rfl, by decide, by decide, Or.inl ⟨by decide, by omega, rfl⟩, (fun _ _ _ => rfl), fun _ _ _ => rfl⟩
  · refine mv_iload_n d_Scheme_dropObjection_4 rfl rfl ?_
    refine mv_bipush (v := 100) d_Scheme_dropObjection_5 (by decide) ?_
    have := mz_hi x1
    refine mv_icmp_geZ (tgt := 19) (a := x1.toInt) (b := 100) d_Scheme_dropObjection_7 (by decide) rfl (by decide) (fun b2 => ?_) (fun b2 => ?_)
    · refine mv_iconst (v := 0) d_Scheme_dropObjection_19 (by decide) ?_
      exact mv_iret d_Scheme_dropObjection_20 rfl (by decide) ⟨_, I0, _, rfl, by decide, by decide, Or.inl ⟨by decide, by omega, rfl⟩, (fun _ _ _ => rfl), fun _ _ _ => rfl⟩
    · refine mv_aload_n d_Scheme_dropObjection_10 rfl rfl ?_
      refine tr_getK (k := 10) yr d_Scheme_dropObjection_11 f_Scheme_15_11 ?_
      refine mv_iload_n d_Scheme_dropObjection_14 rfl rfl ?_
      refine tr_zaldC (o := o0) (c := 11) (k := 10) I0 yr t_R1 (by decide) d_Scheme_dropObjection_15 (vp_in_iff.mpr (by omega)) (fun v3 e4 => ?_)
      have : v3.toInt = ra M0 o0 10 x1.toInt.toNat := by rw [e4, show x1.toNatClampNeg = x1.toInt.toNat from by have := mz_nat9 (i := x1) (by omega); omega]
      have := mz_hi v3
      refine mv_if_neZ (tgt := 21) (a := v3.toInt) d_Scheme_dropObjection_16 (by decide) rfl (fun b5 => ?_) (fun b5 => ?_)
      · refine mv_aload_n d_Scheme_dropObjection_21 rfl rfl ?_
        refine tr_getK (k := 10) yr d_Scheme_dropObjection_22 f_Scheme_15_11 ?_
        refine mv_iload_n d_Scheme_dropObjection_25 rfl rfl ?_
        refine mv_iconst (v := 0) d_Scheme_dropObjection_26 (by decide) ?_
        refine tr_zastC (o := o0) (c := 11) (k := 10) I0 yr t_R1 (by decide) (Or.inl (by decide)) d_Scheme_dropObjection_27 (vp_in_iff.mpr (by omega)) (fun M6 I7 K8 E9 K10 => ?_)
        refine mv_aload_n d_Scheme_dropObjection_28 rfl rfl ?_
        refine mv_dup d_Scheme_dropObjection_29 rfl ?_
        refine tr_getK (k := 7) (K8 _ 11 7 _ yc) d_Scheme_dropObjection_30 f_Scheme_38_11 ?_
        refine mv_iconst (v := 1) d_Scheme_dropObjection_33 (by decide) ?_
        refine mv_isub d_Scheme_dropObjection_34 ?_
        refine tr_putKM tm_okF I7 h_o0 (k := 7) rfl ⟨_, rfl⟩ (Or.inl (by decide)) d_Scheme_dropObjection_35 p_Scheme_38_11 rfl rfl (fun M11 I12 q13 K14 K14M => ?_)
        have E15 : ∀ j : Nat, ra M11 o0 10 j = if j = x1.toInt.toNat then 0 else ra M0 o0 10 j := fun j => (ra_g (K8 _ 11 10 _ yr) (K14 _ 11 10 _ rfl (K8 _ 11 10 _ yr)) (K14M _ (tm_dif t_R1 h_o0 rfl)) j).trans ((E9 j).trans (by rw [show x1.toNatClampNeg = x1.toInt.toNat from by have := mz_nat9 (i := x1) (by omega); omega, show (vp_nar .boolean 0).toInt = 0 from by decide]))
        have F16 : ∀ b : Nat, T0 b = some (0, 11, 0) → b ≠ o0 → M11 b = M0 b := fun b h hx => (K14M b hx).trans (K10 b (tm_dif h t_R1 rfl))
        have U17 : ∀ R9 : Nat, T0 R9 = some (1, 9282, 100) → R9 ≠ R1 → M11 R9 = M0 R9 := fun R9 h hx => (K14M R9 (tm_dif h h_o0 rfl)).trans (K10 R9 hx)
        refine mv_iconst (v := 1) d_Scheme_dropObjection_38 (by decide) ?_
        exact mv_iret d_Scheme_dropObjection_39 rfl (by decide) ⟨_, I12, _, rfl, by decide, by decide, Or.inr ⟨by decide, by omega, E15, _, q13, (by rw [if_pos (show (0 : Int) = 0 from rfl), if_neg (show ¬ ra M0 o0 10 x1.toInt.toNat = 0 by omega)]; have := mz_subn (x := c) 1 1 (by decide) (by omega) (by omega); omega)⟩, F16, U17⟩
      · refine mv_iconst (v := 0) d_Scheme_dropObjection_19 (by decide) ?_
        exact mv_iret d_Scheme_dropObjection_20 rfl (by decide) ⟨_, I0, _, rfl, by decide, by decide, Or.inl ⟨by decide, by omega, rfl⟩, (fun _ _ _ => rfl), fun _ _ _ => rfl⟩
def w_TrustDesk_objects_h : List Nat := [1107, 1160]
set_option maxHeartbeats 100000000 in theorem tc_TrustDesk_objects_h {g : mj_G} {l : Launch} {d : Nat} {T0 : tm_H} {M0 : mj_M} {n0 x9 : Nat} {o0 : Nat} {x1 : Int32} {x2 : Int32} (h_o0 : T0 o0 = some (0, 12, 0))  {Ls S : Nat} {ks t : Int32} {R : Nat → Nat} {op la : Nat → Int} {G : Nat → Nat → Int} (h_Ls : T0 Ls = some (3, 11, o0)) (q_Ls : tm_at M0 o0 12 8 (.ref Ls)) (yks : tm_at M0 Ls 0 2 (.int ks)) (yS : ks.toInt = (S : Int)) (yH : qH M0 Ls S R op la G) (yt : tm_at M0 o0 12 12 (.int t)) (yn9 : ∀ i : Nat, p_cn (G i) 100 ≤ 10) (I0 : tm_I tm_FT (tm_in w_TrustDesk_objects_h) x9 T0 M0 n0 T0 M0 n0) : mj_Met g l kY_TrustDesk_objects (d + 4) [.ref o0, .int x1, .int x2] M0 n0 0 0 (tm_Q tm_FT (tm_in w_TrustDesk_objects_h) x9 T0 M0 n0 (fun r _ M => ∃ v : Int32, r = some (.int v) ∧ 0 ≤ v.toInt ∧ v.toInt ≤ 1 ∧ ((v.toInt = 0 ∧ ¬ (0 ≤ x1.toInt ∧ x1.toInt < ks.toInt ∧ 0 ≤ x2.toInt ∧ x2.toInt ≤ 99 ∧ op x1.toInt.toNat = 0 ∧ t.toInt ≤ la x1.toInt.toNat ∧ G x1.toInt.toNat x2.toInt.toNat = 0 ∧ p_cn (G x1.toInt.toNat) 100 < 10) ∧ qH M Ls S R op la G) ∨ (v.toInt = 1 ∧ (0 ≤ x1.toInt ∧ x1.toInt < ks.toInt ∧ 0 ≤ x2.toInt ∧ x2.toInt ≤ 99 ∧ op x1.toInt.toNat = 0 ∧ t.toInt ≤ la x1.toInt.toNat ∧ G x1.toInt.toNat x2.toInt.toNat = 0 ∧ p_cn (G x1.toInt.toNat) 100 < 10) ∧ qH M Ls S R op la (p_gu G x1.toInt.toNat x2.toInt.toNat 1))))) := by
  refine mj_enter (by decide) (Nat.le_of_ble_eq_true rfl) ?_
  refine mv_aload_n d_TrustDesk_objects_0 rfl rfl ?_
  refine mv_iload_n d_TrustDesk_objects_1 rfl rfl ?_
  obtain ⟨_, b1, -⟩ := I0.1 _ _ h_o0
  refine mv_callV (kc1 := 0) (ks1 := 0) (kc' := 0) (ks' := 0) (As := [.int x1]) (st9 := [.int x1, .ref o0]) d_TrustDesk_objects_2 lV_TrustDesk_280 b1 rfl (mj_enter (by decide) (Nat.le_of_ble_eq_true rfl) ?_) rfl (Nat.le_of_ble_eq_true rfl) (Nat.le_of_ble_eq_true rfl) (Nat.le_of_ble_eq_true rfl) (hst := rfl) (fun _ _ _ h => h)
  refine mv_iload_n d_TrustDesk_schemeAt_0 rfl rfl ?_
  have := mz_hi x1
  refine mv_if_ltZ (tgt := 29) (a := x1.toInt) d_TrustDesk_schemeAt_1 (by decide) rfl (fun b2 => ?_) (fun b2 => ?_)
  · refine mv_null d_TrustDesk_schemeAt_29 ?_
    refine mv_aret (r := none) d_TrustDesk_schemeAt_30 rfl (by first | exact Or.inl ⟨_, rfl⟩ | exact Or.inr ⟨_, rfl⟩) ?_
    refine mv_astore_nN (lv' := [(3, .null), (0, .ref o0), (1, .int x1), (2, .int x2)]) d_TrustDesk_objects_5 rfl (by decide) rfl ?_
    refine mv_aload_nN d_TrustDesk_objects_6 rfl rfl ?_
    refine mv_ifnullN (tgt := 35) d_TrustDesk_objects_7 (by decide) ?_
    refine mv_iconst (v := 0) d_TrustDesk_objects_35 (by decide) ?_
    exact mv_iret d_TrustDesk_objects_36 rfl (by decide) ⟨_, I0, _, rfl, by decide, by decide, Or.inl ⟨by decide, by omega, yH⟩⟩
  · refine mv_iload_n d_TrustDesk_schemeAt_4 rfl rfl ?_
    refine mv_aload_n d_TrustDesk_schemeAt_5 rfl rfl ?_
    refine tr_getK (k := 8) q_Ls d_TrustDesk_schemeAt_6 f_TrustDesk_59_12 ?_
    obtain ⟨m4, e5, N6, f7, h3⟩ := tm_lsn I0 h_Ls yks
    refine mv_callV_s (kc' := 0) (ks' := 0) [] [.ref Ls, .int x1] d_TrustDesk_schemeAt_9 lV_TrustDesk_97 h3.1 rfl (tc_L_size (d := (d + 2)) h3.1) rfl (Nat.le_of_ble_eq_true rfl) (Nat.le_of_ble_eq_true rfl) (Nat.le_of_ble_eq_true rfl) rfl ?_
    have := mz_hi x1
    have := mz_hi ks
    refine mv_icmp_geZ (tgt := 29) (a := x1.toInt) (b := ks.toInt) d_TrustDesk_schemeAt_12 (by decide) rfl rfl (fun b8 => ?_) (fun b8 => ?_)
    · refine mv_null d_TrustDesk_schemeAt_29 ?_
      refine mv_aret (r := none) d_TrustDesk_schemeAt_30 rfl (by first | exact Or.inl ⟨_, rfl⟩ | exact Or.inr ⟨_, rfl⟩) ?_
      refine mv_astore_nN (lv' := [(3, .null), (0, .ref o0), (1, .int x1), (2, .int x2)]) d_TrustDesk_objects_5 rfl (by decide) rfl ?_
      refine mv_aload_nN d_TrustDesk_objects_6 rfl rfl ?_
      refine mv_ifnullN (tgt := 35) d_TrustDesk_objects_7 (by decide) ?_
      refine mv_iconst (v := 0) d_TrustDesk_objects_35 (by decide) ?_
      exact mv_iret d_TrustDesk_objects_36 rfl (by decide) ⟨_, I0, _, rfl, by decide, by decide, Or.inl ⟨by decide, by omega, yH⟩⟩
    · refine mv_aload_n d_TrustDesk_schemeAt_15 rfl rfl ?_
      refine tr_getK (k := 8) q_Ls d_TrustDesk_schemeAt_16 f_TrustDesk_59_12 ?_
      refine mv_iload_n d_TrustDesk_schemeAt_19 rfl rfl ?_
      obtain ⟨m10, e11, N12, f13, h9⟩ := tm_lsn I0 h_Ls yks
      obtain ⟨a15, g16, q17⟩ := yH.2 x1.toInt.toNat (by omega)
      obtain ⟨-, f19, t_a15⟩ := tm_ge.el h9 g16
      obtain ⟨e20, z21, c22, q23, h24, q25, h26, q27, h28, q29, h30⟩ := id q17
      have h18 : x1.toNatClampNeg = x1.toInt.toNat := by have := mz_nat9 (i := x1) (by omega); omega
      rw [← h18] at f19
      obtain ⟨u14e, u14i, -⟩ := tm_el (i := x1) h9 (by omega) (by omega)
      refine mv_callV_s (kc' := 0) (ks' := 0) [.int x1] [.int x1, .ref Ls] d_TrustDesk_schemeAt_20 lV_TrustDesk_158 h9.1 rfl (tc_L_get (d := d) h9.1 u14e (by omega) (by omega) u14i f19) rfl (Nat.le_of_ble_eq_true rfl) (Nat.le_of_ble_eq_true rfl) (Nat.le_of_ble_eq_true rfl) rfl ?_
      have := yn9 x1.toInt.toNat
      have := p_cn_0 (g := G x1.toInt.toNat) 100
      obtain ⟨_, b31, -⟩ := I0.1 _ _ t_a15
      refine mv_castS (T9 := kF_Scheme) (N := 12) d_TrustDesk_schemeAt_23 (mj_in1 (List.mem_of_getElem? (i := 961) (by decide +kernel)) rfl) b31 rfl ?_
      refine mv_goto (tgt := 30) d_TrustDesk_schemeAt_26 (by decide) ?_
      refine mv_aret (r := (some a15)) d_TrustDesk_schemeAt_30 rfl (by first | exact Or.inl ⟨_, rfl⟩ | exact Or.inr ⟨_, rfl⟩) ?_
      refine mv_astore_n (lv' := [(3, .ref a15), (0, .ref o0), (1, .int x1), (2, .int x2)]) d_TrustDesk_objects_5 rfl (by decide) rfl ?_
      refine mv_aload_n d_TrustDesk_objects_6 rfl rfl ?_
      refine mv_ifnull d_TrustDesk_objects_7 ?_
      refine mv_iload_n d_TrustDesk_objects_10 rfl rfl ?_
      refine mv_callS (kc1 := 0) (ks1 := 0) (kc' := 0) (ks' := 0) (As := [.int x2]) (st9 := [.int x2]) d_TrustDesk_objects_11 lS_TrustDesk_261 (mj_enter (by decide) (Nat.le_of_ble_eq_true rfl) ?_) rfl (Nat.le_of_ble_eq_true rfl) (Nat.le_of_ble_eq_true rfl) (Nat.le_of_ble_eq_true rfl) (hst := rfl) (fun _ _ _ h => h)
      refine mv_iload_n d_TrustDesk_isPerson_0 rfl rfl ?_
      have := mz_hi x2
      refine mv_if_ltZ (tgt := 14) (a := x2.toInt) d_TrustDesk_isPerson_1 (by decide) rfl (fun b32 => ?_) (fun b32 => ?_)
      · refine mv_iconst (v := 0) d_TrustDesk_isPerson_14 (by decide) ?_
        refine mv_iret d_TrustDesk_isPerson_15 rfl (by decide) ?_
        refine mv_if_eq_t (tgt := 35) d_TrustDesk_objects_14 (by decide) (by decide) ?_
        refine mv_iconst (v := 0) d_TrustDesk_objects_35 (by decide) ?_
        exact mv_iret d_TrustDesk_objects_36 rfl (by decide) ⟨_, I0, _, rfl, by decide, by decide, Or.inl ⟨by decide, by omega, yH⟩⟩
      · refine mv_iload_n d_TrustDesk_isPerson_4 rfl rfl ?_
        refine mv_bipush (v := 100) d_TrustDesk_isPerson_5 (by decide) ?_
        have := mz_hi x2
        refine mv_icmp_geZ (tgt := 14) (a := x2.toInt) (b := 100) d_TrustDesk_isPerson_7 (by decide) rfl (by decide) (fun b33 => ?_) (fun b33 => ?_)
        · refine mv_iconst (v := 0) d_TrustDesk_isPerson_14 (by decide) ?_
          refine mv_iret d_TrustDesk_isPerson_15 rfl (by decide) ?_
          refine mv_if_eq_t (tgt := 35) d_TrustDesk_objects_14 (by decide) (by decide) ?_
          refine mv_iconst (v := 0) d_TrustDesk_objects_35 (by decide) ?_
          exact mv_iret d_TrustDesk_objects_36 rfl (by decide) ⟨_, I0, _, rfl, by decide, by decide, Or.inl ⟨by decide, by omega, yH⟩⟩
        · refine mv_iconst (v := 1) d_TrustDesk_isPerson_10 (by decide) ?_
          refine mv_goto (tgt := 15) d_TrustDesk_isPerson_11 (by decide) ?_
          refine mv_iret d_TrustDesk_isPerson_15 rfl (by decide) ?_
          refine mv_if_eq_f (tgt := 35) d_TrustDesk_objects_14 (by decide) (by decide) ?_
          refine mv_aload_n d_TrustDesk_objects_17 rfl rfl ?_
          refine tr_getK (k := 5) q25 d_TrustDesk_objects_18 f_TrustDesk_284_11 ?_
          have := mz_hi z21
          refine mv_if_neZ (tgt := 35) (a := z21.toInt) d_TrustDesk_objects_21 (by decide) rfl (fun b34 => ?_) (fun b34 => ?_)
          · refine mv_iconst (v := 0) d_TrustDesk_objects_35 (by decide) ?_
            exact mv_iret d_TrustDesk_objects_36 rfl (by decide) ⟨_, I0, _, rfl, by decide, by decide, Or.inl ⟨by decide, by omega, yH⟩⟩
          · refine mv_aload_n d_TrustDesk_objects_24 rfl rfl ?_
            refine tr_getK (k := 12) yt d_TrustDesk_objects_25 f_TrustDesk_73_12 ?_
            refine mv_aload_n d_TrustDesk_objects_28 rfl rfl ?_
            refine tr_getK (k := 4) q23 d_TrustDesk_objects_29 f_TrustDesk_285_11 ?_
            have := mz_hi t
            have := mz_hi e20
            refine mv_icmp_leZ (tgt := 37) (a := t.toInt) (b := e20.toInt) d_TrustDesk_objects_32 (by decide) rfl rfl (fun b35 => ?_) (fun b35 => ?_)
            · refine mv_aload_n d_TrustDesk_objects_37 rfl rfl ?_
              refine mv_iload_n d_TrustDesk_objects_38 rfl rfl ?_
              obtain ⟨_, b42, -⟩ := I0.1 _ _ t_a15
              have t_R43 := tm_gs I0.1 t_a15 q29
              refine mv_callV (kc' := 0) (ks' := 0) (As := [.int x2]) (st9 := [.int x2, .ref a15]) d_TrustDesk_objects_39 lV_TrustDesk_288 b42 rfl (tc_Scheme_takeObjection_h (d := (d + 3)) (x9 := x9) (o0 := a15) (x1 := x2) t_a15 t_R43 q29 q27 ⟨by omega, by omega⟩ I0.start) rfl (Nat.le_of_ble_eq_true rfl) (Nat.le_of_ble_eq_true rfl) (Nat.le_of_ble_eq_true rfl) (hst := rfl) (fun b36r M37 n38 b36 => ?_)
              obtain ⟨T39, J40, v44, rfl, b45, b46, D47, F48, U49⟩ := b36
              have I41 := I0.call J40 (tm_sub (by decide)) (Or.inl rfl)
              have t50 := J40.up t_a15
              have t51 := J40.up h_o0
              have q52 := J40.keep h_o0 (by decide) q_Ls
              have t53 := J40.up h_Ls
              have q54 := J40.keepL h_Ls (by decide) yks
              have q55 := J40.keep h_o0 (by decide) yt
              have q56 := J40.keep t_a15 (by decide) q23
              have q57 := J40.keep t_a15 (by decide) q25
              have Q58 := yH.take (X := x1.toInt.toNat) (Y := x2.toInt.toNat) I0.1 J40 (I0.up h_Ls) (by decide) (by decide) (by decide) (by decide) (by omega) g16 q17 (by omega) q27 (show 0 ≤ x2.toInt ∧ x2.toInt ≤ 99 from ⟨by omega, by omega⟩) D47 F48 U49
              clear D47
              exact mv_iret d_TrustDesk_objects_42 rfl (mz_nb (by omega) (by omega)) ⟨_, I41, _, rfl, by omega, by omega, (by have e11 := h30 x2.toInt.toNat (by omega); rcases Q58 with ⟨d1, d2, d3⟩ | ⟨d1, d2, d3⟩; exact Or.inl ⟨d1, by omega, d3⟩; exact Or.inr ⟨d1, by omega, d3⟩)⟩
            · refine mv_iconst (v := 0) d_TrustDesk_objects_35 (by decide) ?_
              exact mv_iret d_TrustDesk_objects_36 rfl (by decide) ⟨_, I0, _, rfl, by decide, by decide, Or.inl ⟨by decide, by omega, yH⟩⟩
def w_TrustDesk_withdraws_h : List Nat := [1107, 1160]
set_option maxHeartbeats 100000000 in theorem tc_TrustDesk_withdraws_h {g : mj_G} {l : Launch} {d : Nat} {T0 : tm_H} {M0 : mj_M} {n0 x9 : Nat} {o0 : Nat} {x1 : Int32} {x2 : Int32} (h_o0 : T0 o0 = some (0, 12, 0))  {Ls S : Nat} {ks t : Int32} {R : Nat → Nat} {op la : Nat → Int} {G : Nat → Nat → Int} (h_Ls : T0 Ls = some (3, 11, o0)) (q_Ls : tm_at M0 o0 12 8 (.ref Ls)) (yks : tm_at M0 Ls 0 2 (.int ks)) (yS : ks.toInt = (S : Int)) (yH : qH M0 Ls S R op la G) (yt : tm_at M0 o0 12 12 (.int t)) (yn9 : ∀ i : Nat, p_cn (G i) 100 ≤ 10) (I0 : tm_I tm_FT (tm_in w_TrustDesk_withdraws_h) x9 T0 M0 n0 T0 M0 n0) : mj_Met g l kY_TrustDesk_withdraws (d + 4) [.ref o0, .int x1, .int x2] M0 n0 0 0 (tm_Q tm_FT (tm_in w_TrustDesk_withdraws_h) x9 T0 M0 n0 (fun r _ M => ∃ v : Int32, r = some (.int v) ∧ 0 ≤ v.toInt ∧ v.toInt ≤ 1 ∧ ((v.toInt = 0 ∧ ¬ (0 ≤ x1.toInt ∧ x1.toInt < ks.toInt ∧ 0 ≤ x2.toInt ∧ x2.toInt ≤ 99 ∧ op x1.toInt.toNat = 0 ∧ G x1.toInt.toNat x2.toInt.toNat ≠ 0) ∧ qH M Ls S R op la G) ∨ (v.toInt = 1 ∧ (0 ≤ x1.toInt ∧ x1.toInt < ks.toInt ∧ 0 ≤ x2.toInt ∧ x2.toInt ≤ 99 ∧ op x1.toInt.toNat = 0 ∧ G x1.toInt.toNat x2.toInt.toNat ≠ 0) ∧ qH M Ls S R op la (p_gu G x1.toInt.toNat x2.toInt.toNat 0))))) := by
  refine mj_enter (by decide) (Nat.le_of_ble_eq_true rfl) ?_
  refine mv_aload_n d_TrustDesk_withdraws_0 rfl rfl ?_
  refine mv_iload_n d_TrustDesk_withdraws_1 rfl rfl ?_
  obtain ⟨_, b1, -⟩ := I0.1 _ _ h_o0
  refine mv_callV (kc1 := 0) (ks1 := 0) (kc' := 0) (ks' := 0) (As := [.int x1]) (st9 := [.int x1, .ref o0]) d_TrustDesk_withdraws_2 lV_TrustDesk_280 b1 rfl (mj_enter (by decide) (Nat.le_of_ble_eq_true rfl) ?_) rfl (Nat.le_of_ble_eq_true rfl) (Nat.le_of_ble_eq_true rfl) (Nat.le_of_ble_eq_true rfl) (hst := rfl) (fun _ _ _ h => h)
  refine mv_iload_n d_TrustDesk_schemeAt_0 rfl rfl ?_
  have := mz_hi x1
  refine mv_if_ltZ (tgt := 29) (a := x1.toInt) d_TrustDesk_schemeAt_1 (by decide) rfl (fun b2 => ?_) (fun b2 => ?_)
  · refine mv_null d_TrustDesk_schemeAt_29 ?_
    refine mv_aret (r := none) d_TrustDesk_schemeAt_30 rfl (by first | exact Or.inl ⟨_, rfl⟩ | exact Or.inr ⟨_, rfl⟩) ?_
    refine mv_astore_nN (lv' := [(3, .null), (0, .ref o0), (1, .int x1), (2, .int x2)]) d_TrustDesk_withdraws_5 rfl (by decide) rfl ?_
    refine mv_aload_nN d_TrustDesk_withdraws_6 rfl rfl ?_
    refine mv_ifnullN (tgt := 24) d_TrustDesk_withdraws_7 (by decide) ?_
    refine mv_iconst (v := 0) d_TrustDesk_withdraws_24 (by decide) ?_
    exact mv_iret d_TrustDesk_withdraws_25 rfl (by decide) ⟨_, I0, _, rfl, by decide, by decide, Or.inl ⟨by decide, by omega, yH⟩⟩
  · refine mv_iload_n d_TrustDesk_schemeAt_4 rfl rfl ?_
    refine mv_aload_n d_TrustDesk_schemeAt_5 rfl rfl ?_
    refine tr_getK (k := 8) q_Ls d_TrustDesk_schemeAt_6 f_TrustDesk_59_12 ?_
    obtain ⟨m4, e5, N6, f7, h3⟩ := tm_lsn I0 h_Ls yks
    refine mv_callV_s (kc' := 0) (ks' := 0) [] [.ref Ls, .int x1] d_TrustDesk_schemeAt_9 lV_TrustDesk_97 h3.1 rfl (tc_L_size (d := (d + 2)) h3.1) rfl (Nat.le_of_ble_eq_true rfl) (Nat.le_of_ble_eq_true rfl) (Nat.le_of_ble_eq_true rfl) rfl ?_
    have := mz_hi x1
    have := mz_hi ks
    refine mv_icmp_geZ (tgt := 29) (a := x1.toInt) (b := ks.toInt) d_TrustDesk_schemeAt_12 (by decide) rfl rfl (fun b8 => ?_) (fun b8 => ?_)
    · refine mv_null d_TrustDesk_schemeAt_29 ?_
      refine mv_aret (r := none) d_TrustDesk_schemeAt_30 rfl (by first | exact Or.inl ⟨_, rfl⟩ | exact Or.inr ⟨_, rfl⟩) ?_
      refine mv_astore_nN (lv' := [(3, .null), (0, .ref o0), (1, .int x1), (2, .int x2)]) d_TrustDesk_withdraws_5 rfl (by decide) rfl ?_
      refine mv_aload_nN d_TrustDesk_withdraws_6 rfl rfl ?_
      refine mv_ifnullN (tgt := 24) d_TrustDesk_withdraws_7 (by decide) ?_
      refine mv_iconst (v := 0) d_TrustDesk_withdraws_24 (by decide) ?_
      exact mv_iret d_TrustDesk_withdraws_25 rfl (by decide) ⟨_, I0, _, rfl, by decide, by decide, Or.inl ⟨by decide, by omega, yH⟩⟩
    · refine mv_aload_n d_TrustDesk_schemeAt_15 rfl rfl ?_
      refine tr_getK (k := 8) q_Ls d_TrustDesk_schemeAt_16 f_TrustDesk_59_12 ?_
      refine mv_iload_n d_TrustDesk_schemeAt_19 rfl rfl ?_
      obtain ⟨m10, e11, N12, f13, h9⟩ := tm_lsn I0 h_Ls yks
      obtain ⟨a15, g16, q17⟩ := yH.2 x1.toInt.toNat (by omega)
      obtain ⟨-, f19, t_a15⟩ := tm_ge.el h9 g16
      obtain ⟨e20, z21, c22, q23, h24, q25, h26, q27, h28, q29, h30⟩ := id q17
      have h18 : x1.toNatClampNeg = x1.toInt.toNat := by have := mz_nat9 (i := x1) (by omega); omega
      rw [← h18] at f19
      obtain ⟨u14e, u14i, -⟩ := tm_el (i := x1) h9 (by omega) (by omega)
      refine mv_callV_s (kc' := 0) (ks' := 0) [.int x1] [.int x1, .ref Ls] d_TrustDesk_schemeAt_20 lV_TrustDesk_158 h9.1 rfl (tc_L_get (d := d) h9.1 u14e (by omega) (by omega) u14i f19) rfl (Nat.le_of_ble_eq_true rfl) (Nat.le_of_ble_eq_true rfl) (Nat.le_of_ble_eq_true rfl) rfl ?_
      have := yn9 x1.toInt.toNat
      have := p_cn_0 (g := G x1.toInt.toNat) 100
      obtain ⟨_, b31, -⟩ := I0.1 _ _ t_a15
      refine mv_castS (T9 := kF_Scheme) (N := 12) d_TrustDesk_schemeAt_23 (mj_in1 (List.mem_of_getElem? (i := 961) (by decide +kernel)) rfl) b31 rfl ?_
      refine mv_goto (tgt := 30) d_TrustDesk_schemeAt_26 (by decide) ?_
      refine mv_aret (r := (some a15)) d_TrustDesk_schemeAt_30 rfl (by first | exact Or.inl ⟨_, rfl⟩ | exact Or.inr ⟨_, rfl⟩) ?_
      refine mv_astore_n (lv' := [(3, .ref a15), (0, .ref o0), (1, .int x1), (2, .int x2)]) d_TrustDesk_withdraws_5 rfl (by decide) rfl ?_
      refine mv_aload_n d_TrustDesk_withdraws_6 rfl rfl ?_
      refine mv_ifnull d_TrustDesk_withdraws_7 ?_
      refine mv_iload_n d_TrustDesk_withdraws_10 rfl rfl ?_
      refine mv_callS (kc1 := 0) (ks1 := 0) (kc' := 0) (ks' := 0) (As := [.int x2]) (st9 := [.int x2]) d_TrustDesk_withdraws_11 lS_TrustDesk_261 (mj_enter (by decide) (Nat.le_of_ble_eq_true rfl) ?_) rfl (Nat.le_of_ble_eq_true rfl) (Nat.le_of_ble_eq_true rfl) (Nat.le_of_ble_eq_true rfl) (hst := rfl) (fun _ _ _ h => h)
      refine mv_iload_n d_TrustDesk_isPerson_0 rfl rfl ?_
      have := mz_hi x2
      refine mv_if_ltZ (tgt := 14) (a := x2.toInt) d_TrustDesk_isPerson_1 (by decide) rfl (fun b32 => ?_) (fun b32 => ?_)
      · refine mv_iconst (v := 0) d_TrustDesk_isPerson_14 (by decide) ?_
        refine mv_iret d_TrustDesk_isPerson_15 rfl (by decide) ?_
        refine mv_if_eq_t (tgt := 24) d_TrustDesk_withdraws_14 (by decide) (by decide) ?_
        refine mv_iconst (v := 0) d_TrustDesk_withdraws_24 (by decide) ?_
        exact mv_iret d_TrustDesk_withdraws_25 rfl (by decide) ⟨_, I0, _, rfl, by decide, by decide, Or.inl ⟨by decide, by omega, yH⟩⟩
      · refine mv_iload_n d_TrustDesk_isPerson_4 rfl rfl ?_
        refine mv_bipush (v := 100) d_TrustDesk_isPerson_5 (by decide) ?_
        have := mz_hi x2
        refine mv_icmp_geZ (tgt := 14) (a := x2.toInt) (b := 100) d_TrustDesk_isPerson_7 (by decide) rfl (by decide) (fun b33 => ?_) (fun b33 => ?_)
        · refine mv_iconst (v := 0) d_TrustDesk_isPerson_14 (by decide) ?_
          refine mv_iret d_TrustDesk_isPerson_15 rfl (by decide) ?_
          refine mv_if_eq_t (tgt := 24) d_TrustDesk_withdraws_14 (by decide) (by decide) ?_
          refine mv_iconst (v := 0) d_TrustDesk_withdraws_24 (by decide) ?_
          exact mv_iret d_TrustDesk_withdraws_25 rfl (by decide) ⟨_, I0, _, rfl, by decide, by decide, Or.inl ⟨by decide, by omega, yH⟩⟩
        · refine mv_iconst (v := 1) d_TrustDesk_isPerson_10 (by decide) ?_
          refine mv_goto (tgt := 15) d_TrustDesk_isPerson_11 (by decide) ?_
          refine mv_iret d_TrustDesk_isPerson_15 rfl (by decide) ?_
          refine mv_if_eq_f (tgt := 24) d_TrustDesk_withdraws_14 (by decide) (by decide) ?_
          refine mv_aload_n d_TrustDesk_withdraws_17 rfl rfl ?_
          refine tr_getK (k := 5) q25 d_TrustDesk_withdraws_18 f_TrustDesk_284_11 ?_
          have := mz_hi z21
          refine mv_if_eqZ (tgt := 26) (a := z21.toInt) d_TrustDesk_withdraws_21 (by decide) rfl (fun b34 => ?_) (fun b34 => ?_)
          · refine mv_aload_n d_TrustDesk_withdraws_26 rfl rfl ?_
            refine mv_iload_n d_TrustDesk_withdraws_27 rfl rfl ?_
            obtain ⟨_, b41, -⟩ := I0.1 _ _ t_a15
            have t_R42 := tm_gs I0.1 t_a15 q29
            refine mv_callV (kc' := 0) (ks' := 0) (As := [.int x2]) (st9 := [.int x2, .ref a15]) d_TrustDesk_withdraws_28 lV_TrustDesk_291 b41 rfl (tc_Scheme_dropObjection_h (d := (d + 3)) (x9 := x9) (o0 := a15) (x1 := x2) t_a15 t_R42 q29 q27 ⟨by omega, by omega⟩ I0.start) rfl (Nat.le_of_ble_eq_true rfl) (Nat.le_of_ble_eq_true rfl) (Nat.le_of_ble_eq_true rfl) (hst := rfl) (fun b35r M36 n37 b35 => ?_)
            obtain ⟨T38, J39, v43, rfl, b44, b45, D46, F47, U48⟩ := b35
            have I40 := I0.call J39 (tm_sub (by decide)) (Or.inl rfl)
            have t49 := J39.up t_a15
            have t50 := J39.up h_o0
            have q51 := J39.keep h_o0 (by decide) q_Ls
            have t52 := J39.up h_Ls
            have q53 := J39.keepL h_Ls (by decide) yks
            have q54 := J39.keep h_o0 (by decide) yt
            have q55 := J39.keep t_a15 (by decide) q23
            have q56 := J39.keep t_a15 (by decide) q25
            have Q57 := yH.take (X := x1.toInt.toNat) (Y := x2.toInt.toNat) I0.1 J39 (I0.up h_Ls) (by decide) (by decide) (by decide) (by decide) (by omega) g16 q17 (by omega) q27 (show 0 ≤ x2.toInt ∧ x2.toInt ≤ 99 from ⟨by omega, by omega⟩) D46 F47 U48
            clear D46
            exact mv_iret d_TrustDesk_withdraws_31 rfl (mz_nb (by omega) (by omega)) ⟨_, I40, _, rfl, by omega, by omega, (by have e11 := h30 x2.toInt.toNat (by omega); rcases Q57 with ⟨d1, d2, d3⟩ | ⟨d1, d2, d3⟩; exact Or.inl ⟨d1, by omega, d3⟩; exact Or.inr ⟨d1, by omega, d3⟩)⟩
          · refine mv_iconst (v := 0) d_TrustDesk_withdraws_24 (by decide) ?_
            exact mv_iret d_TrustDesk_withdraws_25 rfl (by decide) ⟨_, I0, _, rfl, by decide, by decide, Or.inl ⟨by decide, by omega, yH⟩⟩
