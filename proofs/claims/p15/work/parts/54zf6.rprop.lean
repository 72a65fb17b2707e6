def w_TrustDeskModel_propose_h : List Nat := [1300, 1353, 20054, 20055, 20056, 20057, 20058, 20059]
set_option maxHeartbeats 100000000 in theorem tc_TrustDeskModel_propose_h {g : mj_G} {l : Launch} {d : Nat} {T0 : tm_H} {M0 : mj_M} {n0 x9 : Nat} {o0 : Nat} {x1 : Int32} {x2 : Int32} {x3 : Int32} (h_o0 : T0 o0 = some (0, 13, 0)) (yR : rI M0 o0) (y8 : ∀ i : Nat, i < 880 → 0 ≤ ra M0 o0 8 i) (yX : rX M0 o0) (I0 : tm_I tm_FT (tm_in w_TrustDeskModel_propose_h) x9 T0 M0 n0 T0 M0 n0) : mj_Met g l kY_TrustDeskModel_propose (d + 2) [.ref o0, .int x1, .int x2, .int x3] M0 n0 0 0 (tm_Q tm_FT (tm_in w_TrustDeskModel_propose_h) x9 T0 M0 n0 (fun r _ M => ∃ v : Int32, r = some (.int v) ∧ rI M o0 ∧ (rX M o0) ∧ ((v.toInt = -1 ∧ ¬ (0 ≤ x2.toInt ∧ x2.toInt < rv M0 o0 32 ∧ ((x1.toInt = 0 ∧ 0 ≤ x3.toInt ∧ x3.toInt < rv M0 o0 49) ∨ (x1.toInt = 1 ∧ 0 ≤ x3.toInt ∧ x3.toInt < rv M0 o0 32) ∨ (x1.toInt = 2 ∧ 1 ≤ x3.toInt ∧ x3.toInt ≤ 999) ∨ (x1.toInt = 3 ∧ 0 ≤ x3.toInt)) ∧ rv M0 o0 53 ≠ 40) ∧ rv M o0 53 = rv M0 o0 53) ∨ ((0 ≤ x2.toInt ∧ x2.toInt < rv M0 o0 32 ∧ ((x1.toInt = 0 ∧ 0 ≤ x3.toInt ∧ x3.toInt < rv M0 o0 49) ∨ (x1.toInt = 1 ∧ 0 ≤ x3.toInt ∧ x3.toInt < rv M0 o0 32) ∨ (x1.toInt = 2 ∧ 1 ≤ x3.toInt ∧ x3.toInt ≤ 999) ∨ (x1.toInt = 3 ∧ 0 ≤ x3.toInt)) ∧ rv M0 o0 53 ≠ 40) ∧ v.toInt = rv M0 o0 53 ∧ rv M o0 53 = rv M0 o0 53 + 1)) ∧ (v.toInt = -1 → (∀ i, ra M o0 58 i = ra M0 o0 58 i) ∧ ∀ i, ra M o0 59 i = ra M0 o0 59 i) ∧ (v.toInt ≠ -1 → (∀ i, ra M o0 58 i = if i = (rv M0 o0 53).toNat then rv M0 o0 1 + p_tr M0 o0 (rv M0 o0 1) 2 else ra M0 o0 58 i) ∧ ∀ i, ra M o0 59 i = if i = (rv M0 o0 53).toNat then 0 else ra M0 o0 59 i))) := by
  refine mj_enter (by decide) (Nat.le_of_ble_eq_true rfl) ?_
  have K1 : ∀ i : Nat, i < 880 → 0 ≤ ra M0 o0 8 i := y8
  have K2 : rX M0 o0 := yX
  have K3 : ∀ i, ra M0 o0 58 i = ra M0 o0 58 i := (fun _ => rfl)
  have K4 : ∀ i, ra M0 o0 59 i = ra M0 o0 59 i := (fun _ => rfl)
  have K5 : sA [6, 7, 8, 28] M0 M0 o0 := sA.rf
  refine mv_aload_n d_TrustDeskModel_propose_0 rfl rfl ?_
  refine mv_iconst (v := 0) d_TrustDeskModel_propose_1 (by decide) ?_
  refine tr_putR (k := 0) I0 yR h_o0 rfl ⟨_, rfl⟩ (fun _ h => by cases h) rfl (fun lo hi h => by cases h) (Or.inl (by decide)) d_TrustDeskModel_propose_2 p_TrustDeskModel_1_13 rfl rfl (fun M6 I7 q8 K9 R10 A11 V12 => ?_)
  have z13 := (V12 1 (by decide))
  have z14 := (V12 27 (by decide))
  have z15 := (V12 32 (by decide))
  have z16 := (V12 49 (by decide))
  have z17 := (V12 53 (by decide))
  have K18 : ∀ i : Nat, i < 880 → 0 ≤ ra M6 o0 8 i := (by have e9 := ((sA_f A11 (by decide)) : sA [8] _ _ _) 8 rfl; rw [e9]; exact K1)
  have K19 : rX M6 o0 := K2.same (sA_f A11 (by decide)) (sF_f V12 (by decide))
  have K20 : ∀ i, ra M6 o0 58 i = ra M0 o0 58 i := (fun i => (congrFun (((sA_f A11 (by decide)) : sA [58] _ _ _) 58 rfl) i).trans (K3 i))
  have K21 : ∀ i, ra M6 o0 59 i = ra M0 o0 59 i := (fun i => (congrFun (((sA_f A11 (by decide)) : sA [59] _ _ _) 59 rfl) i).trans (K4 i))
  have K22 : sA [6, 7, 8, 28] M0 M6 o0 := K5.trans (sA_f A11 (by decide))
  refine mv_aload_n d_TrustDeskModel_propose_5 rfl rfl ?_
  refine mv_iload_n d_TrustDeskModel_propose_6 rfl rfl ?_
  obtain ⟨_, b23, -⟩ := I7.1 _ _ h_o0
  refine mv_callV (kc1 := 0) (ks1 := 0) (kc' := 0) (ks' := 0) (As := [.int x2]) (st9 := [.int x2, .ref o0]) d_TrustDeskModel_propose_7 lV_TrustDeskModel_418 b23 rfl (mj_enter (by decide) (Nat.le_of_ble_eq_true rfl) ?_) rfl (Nat.le_of_ble_eq_true rfl) (Nat.le_of_ble_eq_true rfl) (Nat.le_of_ble_eq_true rfl) (hst := rfl) (fun _ _ _ h => h)
  refine mv_iload_n d_TrustDeskModel_isFund_0 rfl rfl ?_
  have := mz_hi x2
  refine mv_if_ltZ (tgt := 16) (a := x2.toInt) d_TrustDeskModel_isFund_1 (by decide) rfl (fun b24 => ?_) (fun b24 => ?_)
  · refine mv_iconst (v := 0) d_TrustDeskModel_isFund_16 (by decide) ?_
    refine mv_iret d_TrustDeskModel_isFund_17 rfl (by decide) ?_
    refine mv_if_eq_t (tgt := 34) d_TrustDeskModel_propose_10 (by decide) (by decide) ?_
    refine mv_iconst (v := (-1)) d_TrustDeskModel_propose_34 (by decide) ?_
    exact mv_iret d_TrustDeskModel_propose_35 rfl (by first | rfl | decide) ⟨_, I7, _, rfl, R10, K19, (by have e9 : ((-1) : Int32).toInt = (-1) := (by decide); have := R10.1 1 _ _ rfl; have := R10.1 27 _ _ rfl; have := R10.1 32 _ _ rfl; have := R10.1 49 _ _ rfl; have := R10.1 53 _ _ rfl; omega), (fun _ => ⟨K20, K21⟩), (fun h9 => absurd (by decide) h9)⟩
  · refine mv_iload_n d_TrustDeskModel_isFund_4 rfl rfl ?_
    refine mv_aload_n d_TrustDeskModel_isFund_5 rfl rfl ?_
    obtain ⟨v26, q25⟩ := tm_atI I7 h_o0 (k := 32) rfl
    refine tr_getK q25 d_TrustDeskModel_isFund_6 f_TrustDeskModel_415_13 ?_
    have := R10.f (k := 32) q25 rfl
    have := (tm_rv q25).symm.trans z15
    have := tm_rv q25
    have := mz_hi x2
    have := mz_hi v26
    refine mv_icmp_geZ (tgt := 16) (a := x2.toInt) (b := v26.toInt) d_TrustDeskModel_isFund_9 (by decide) rfl rfl (fun b27 => ?_) (fun b27 => ?_)
    · refine mv_iconst (v := 0) d_TrustDeskModel_isFund_16 (by decide) ?_
      refine mv_iret d_TrustDeskModel_isFund_17 rfl (by decide) ?_
      refine mv_if_eq_t (tgt := 34) d_TrustDeskModel_propose_10 (by decide) (by decide) ?_
      refine mv_iconst (v := (-1)) d_TrustDeskModel_propose_34 (by decide) ?_
      exact mv_iret d_TrustDeskModel_propose_35 rfl (by first | rfl | decide) ⟨_, I7, _, rfl, R10, K19, (by have e9 : ((-1) : Int32).toInt = (-1) := (by decide); have := R10.1 1 _ _ rfl; have := R10.1 27 _ _ rfl; have := R10.1 32 _ _ rfl; have := R10.1 49 _ _ rfl; have := R10.1 53 _ _ rfl; omega), (fun _ => ⟨K20, K21⟩), (fun h9 => absurd (by decide) h9)⟩
    · refine mv_iconst (v := 1) d_TrustDeskModel_isFund_12 (by decide) ?_
      refine mv_goto (tgt := 17) d_TrustDeskModel_isFund_13 (by decide) ?_
      refine mv_iret d_TrustDeskModel_isFund_17 rfl (by decide) ?_
      refine mv_if_eq_f (tgt := 34) d_TrustDeskModel_propose_10 (by decide) (by decide) ?_
      refine mv_iload_n d_TrustDeskModel_propose_13 rfl rfl ?_
      refine mv_i2l (v := x1.toInt64) d_TrustDeskModel_propose_14 rfl ?_
      refine mv_lconst (v := 0) d_TrustDeskModel_propose_15 (by decide) ?_
      refine mv_ldc2 d_TrustDeskModel_propose_16 k_TrustDeskModel_504 ?_
      refine mv_callS (kc1 := 0) (ks1 := 0) (kc' := 0) (ks' := 0) (As := [.long x1.toInt64, .long 0, .long 3]) (st9 := [.long 3, .long 0, .long x1.toInt64]) d_TrustDeskModel_propose_19 lS_TrustDeskModel_169 (mj_enter (by decide) (Nat.le_of_ble_eq_true rfl) ?_) rfl (Nat.le_of_ble_eq_true rfl) (Nat.le_of_ble_eq_true rfl) (Nat.le_of_ble_eq_true rfl) (hst := rfl) (fun _ _ _ h => h)
      refine mv_lload_n d_TrustDeskModel_within_0 rfl rfl ?_
      refine mv_lload_n d_TrustDeskModel_within_1 rfl rfl ?_
      refine mv_lltZ (tgt := 17) (a := x1.toInt) (b := 0) d_TrustDeskModel_within_2 d_TrustDeskModel_within_3 (by decide) (mz_wide _) (by decide) (fun b28 => ?_) (fun b28 => ?_)
      · refine mv_iconst (v := 0) d_TrustDeskModel_within_17 (by decide) ?_
        refine mv_iret d_TrustDeskModel_within_18 rfl (by decide) ?_
        refine mv_if_eq_t (tgt := 34) d_TrustDeskModel_propose_22 (by decide) (by decide) ?_
        refine mv_iconst (v := (-1)) d_TrustDeskModel_propose_34 (by decide) ?_
        exact mv_iret d_TrustDeskModel_propose_35 rfl (by first | rfl | decide) ⟨_, I7, _, rfl, R10, K19, (by have e9 : ((-1) : Int32).toInt = (-1) := (by decide); have := R10.1 1 _ _ rfl; have := R10.1 27 _ _ rfl; have := R10.1 32 _ _ rfl; have := R10.1 49 _ _ rfl; have := R10.1 53 _ _ rfl; omega), (fun _ => ⟨K20, K21⟩), (fun h9 => absurd (by decide) h9)⟩
      · refine mv_lload_n d_TrustDeskModel_within_6 rfl rfl ?_
        refine mv_lload d_TrustDeskModel_within_7 rfl ?_
        refine mv_lgtZ (tgt := 17) (a := x1.toInt) (b := 3) d_TrustDeskModel_within_9 d_TrustDeskModel_within_10 (by decide) (mz_wide _) (by decide) (fun b29 => ?_) (fun b29 => ?_)
        · refine mv_iconst (v := 0) d_TrustDeskModel_within_17 (by decide) ?_
          refine mv_iret d_TrustDeskModel_within_18 rfl (by decide) ?_
          refine mv_if_eq_t (tgt := 34) d_TrustDeskModel_propose_22 (by decide) (by decide) ?_
          refine mv_iconst (v := (-1)) d_TrustDeskModel_propose_34 (by decide) ?_
          exact mv_iret d_TrustDeskModel_propose_35 rfl (by first | rfl | decide) ⟨_, I7, _, rfl, R10, K19, (by have e9 : ((-1) : Int32).toInt = (-1) := (by decide); have := R10.1 1 _ _ rfl; have := R10.1 27 _ _ rfl; have := R10.1 32 _ _ rfl; have := R10.1 49 _ _ rfl; have := R10.1 53 _ _ rfl; omega), (fun _ => ⟨K20, K21⟩), (fun h9 => absurd (by decide) h9)⟩
        · refine mv_iconst (v := 1) d_TrustDeskModel_within_13 (by decide) ?_
          refine mv_goto (tgt := 18) d_TrustDeskModel_within_14 (by decide) ?_
          refine mv_iret d_TrustDeskModel_within_18 rfl (by decide) ?_
          refine mv_if_eq_f (tgt := 34) d_TrustDeskModel_propose_22 (by decide) (by decide) ?_
          refine mv_aload_n d_TrustDeskModel_propose_25 rfl rfl ?_
          obtain ⟨v31, q30⟩ := tm_atI I7 h_o0 (k := 53) rfl
          refine tr_getK q30 d_TrustDeskModel_propose_26 f_TrustDeskModel_501_13 ?_
          have := R10.f (k := 53) q30 rfl
          have := (tm_rv q30).symm.trans z17
          have := tm_rv q30
          refine mv_bipush (v := 40) d_TrustDeskModel_propose_29 (by decide) ?_
          have := mz_hi v31
          refine mv_icmp_neZ (tgt := 36) (a := v31.toInt) (b := 40) d_TrustDeskModel_propose_31 (by decide) rfl (by decide) (fun b32 => ?_) (fun b32 => ?_)
          · refine mv_iload_n d_TrustDeskModel_propose_36 rfl rfl ?_
            have := mz_hi x1
            refine mv_if_neZ (tgt := 60) (a := x1.toInt) d_TrustDeskModel_propose_37 (by decide) rfl (fun b33 => ?_) (fun b33 => ?_)
            · refine mv_iload_n d_TrustDeskModel_propose_60 rfl rfl ?_
              refine mv_iconst (v := 1) d_TrustDeskModel_propose_61 (by decide) ?_
              have := mz_hi x1
              refine mv_icmp_neZ (tgt := 73) (a := x1.toInt) (b := 1) d_TrustDeskModel_propose_62 (by decide) rfl (by decide) (fun b34 => ?_) (fun b34 => ?_)
              · refine mv_iload_n d_TrustDeskModel_propose_73 rfl rfl ?_
                refine mv_iconst (v := 2) d_TrustDeskModel_propose_74 (by decide) ?_
                have := mz_hi x1
                refine mv_icmp_neZ (tgt := 90) (a := x1.toInt) (b := 2) d_TrustDeskModel_propose_75 (by decide) rfl (by decide) (fun b35 => ?_) (fun b35 => ?_)
                · refine mv_iload_n d_TrustDeskModel_propose_90 rfl rfl ?_
                  have := mz_hi x3
                  refine mv_if_ltZ (tgt := 98) (a := x3.toInt) d_TrustDeskModel_propose_91 (by decide) rfl (fun b36 => ?_) (fun b36 => ?_)
                  · refine mv_iconst (v := 0) d_TrustDeskModel_propose_98 (by decide) ?_
                    refine mv_istore (lv' := [(4, .int 0), (0, .ref o0), (1, .int x1), (2, .int x2), (3, .int x3)]) d_TrustDeskModel_propose_99 (by decide) rfl ?_
                    refine mv_iload d_TrustDeskModel_propose_101 rfl ?_
                    refine mv_if_ne_f (tgt := 108) d_TrustDeskModel_propose_103 (by decide) (by decide) ?_
                    refine mv_iconst (v := (-1)) d_TrustDeskModel_propose_106 (by decide) ?_
                    exact mv_iret d_TrustDeskModel_propose_107 rfl (by first | rfl | decide) ⟨_, I7, _, rfl, R10, K19, (by have e9 : ((-1) : Int32).toInt = (-1) := (by decide); have := R10.1 1 _ _ rfl; have := R10.1 27 _ _ rfl; have := R10.1 32 _ _ rfl; have := R10.1 49 _ _ rfl; have := R10.1 53 _ _ rfl; omega), (fun _ => ⟨K20, K21⟩), (fun h9 => absurd (by decide) h9)⟩
                  · refine mv_iconst (v := 1) d_TrustDeskModel_propose_94 (by decide) ?_
                    refine mv_goto (tgt := 99) d_TrustDeskModel_propose_95 (by decide) ?_
                    refine mv_istore (lv' := [(4, .int 1), (0, .ref o0), (1, .int x1), (2, .int x2), (3, .int x3)]) d_TrustDeskModel_propose_99 (by decide) rfl ?_
                    refine mv_iload d_TrustDeskModel_propose_101 rfl ?_
                    refine mv_if_ne_t (tgt := 108) d_TrustDeskModel_propose_103 (by decide) (by decide) ?_
                    refine mv_aload_n d_TrustDeskModel_propose_108 rfl rfl ?_
                    obtain ⟨a38, q37, t_a38⟩ := tm_atR I7 h_o0 (k := 54) rfl
                    refine tr_getK q37 d_TrustDeskModel_propose_109 f_TrustDeskModel_122_13 ?_
                    refine mv_aload_n d_TrustDeskModel_propose_112 rfl rfl ?_
                    refine tr_getK (k := 53) q30 d_TrustDeskModel_propose_113 f_TrustDeskModel_501_13 ?_
                    refine mv_iload_n d_TrustDeskModel_propose_116 rfl rfl ?_
                    refine tr_iastR (k := 54) I7 R10 (I7.up h_o0) q37 t_a38 (by decide) (by decide) (fun lo hi h => by cases h; have := R10.1 1 _ _ rfl; have := R10.1 27 _ _ rfl; have := R10.1 32 _ _ rfl; have := R10.1 49 _ _ rfl; have := R10.1 53 _ _ rfl; exact ⟨by show (0 : Int) ≤ x1.toInt; omega, by show x1.toInt ≤ (3 : Int); omega⟩) (Or.inl (by decide)) d_TrustDeskModel_propose_117 (vp_in_iff.mpr (by have := R10.1 1 _ _ rfl; have := R10.1 27 _ _ rfl; have := R10.1 32 _ _ rfl; have := R10.1 49 _ _ rfl; have := R10.1 53 _ _ rfl; omega)) (fun M39 I40 K41 R42 E43 A44 V45 => ?_)
                    have z46 := (V45 1).trans z13
                    have z47 := (V45 27).trans z14
                    have z48 := (V45 32).trans z15
                    have z49 := (V45 49).trans z16
                    have z50 := (V45 53).trans z17
                    have h51 : (rv M0 o0 53).toNat = v31.toNatClampNeg := by have := mz_nat9 (i := v31) (by have := R10.1 1 _ _ rfl; have := R10.1 27 _ _ rfl; have := R10.1 32 _ _ rfl; have := R10.1 49 _ _ rfl; have := R10.1 53 _ _ rfl; omega); have := R10.1 1 _ _ rfl; have := R10.1 27 _ _ rfl; have := R10.1 32 _ _ rfl; have := R10.1 49 _ _ rfl; have := R10.1 53 _ _ rfl; omega
                    have z52 : ra M39 o0 54 ((rv M0 o0 53).toNat) = x1.toInt := (E43 _).trans (if_pos h51)
                    have K53 : ∀ i : Nat, i < 880 → 0 ≤ ra M39 o0 8 i := (by have e9 := ((sA_a A44 (by decide +kernel)) : sA [8] _ _ _) 8 rfl; rw [e9]; exact K18)
                    have K54 : rX M39 o0 := K19.out A44 E43 V45 (Or.inl rfl) (by have := mz_nat9 (i := v31) (by have := R10.1 1 _ _ rfl; have := R10.1 27 _ _ rfl; have := R10.1 32 _ _ rfl; have := R10.1 49 _ _ rfl; have := R10.1 53 _ _ rfl; omega); have := R10.1 1 _ _ rfl; have := R10.1 27 _ _ rfl; have := R10.1 32 _ _ rfl; have := R10.1 49 _ _ rfl; have := R10.1 53 _ _ rfl; omega)
                    have K55 : ∀ i, ra M39 o0 58 i = ra M0 o0 58 i := (fun i => (congrFun (((sA_a A44 (by decide +kernel)) : sA [58] _ _ _) 58 rfl) i).trans (K20 i))
                    have K56 : ∀ i, ra M39 o0 59 i = ra M0 o0 59 i := (fun i => (congrFun (((sA_a A44 (by decide +kernel)) : sA [59] _ _ _) 59 rfl) i).trans (K21 i))
                    have K57 : sA [6, 7, 8, 28] M0 M39 o0 := K22.trans (sA_a A44 (by decide +kernel))
                    clear z13 z14 z15 z16 z17
                    refine mv_aload_n d_TrustDeskModel_propose_118 rfl rfl ?_
                    obtain ⟨a59, q58, t_a59⟩ := tm_atR I40 h_o0 (k := 55) rfl
                    refine tr_getK q58 d_TrustDeskModel_propose_119 f_TrustDeskModel_125_13 ?_
                    refine mv_aload_n d_TrustDeskModel_propose_122 rfl rfl ?_
                    refine tr_getK (k := 53) (K41 _ 13 53 _ q30) d_TrustDeskModel_propose_123 f_TrustDeskModel_501_13 ?_
                    refine mv_iload_n d_TrustDeskModel_propose_126 rfl rfl ?_
                    refine tr_iastR (k := 55) I40 R42 (I40.up h_o0) q58 t_a59 (by decide) (by decide) (fun lo hi h => by cases h; have := R42.1 1 _ _ rfl; have := R42.1 27 _ _ rfl; have := R42.1 32 _ _ rfl; have := R42.1 49 _ _ rfl; have := R42.1 53 _ _ rfl; exact ⟨by show (0 : Int) ≤ x2.toInt; omega, by show x2.toInt ≤ (11 : Int); omega⟩) (Or.inl (by decide)) d_TrustDeskModel_propose_127 (vp_in_iff.mpr (by have := R42.1 1 _ _ rfl; have := R42.1 27 _ _ rfl; have := R42.1 32 _ _ rfl; have := R42.1 49 _ _ rfl; have := R42.1 53 _ _ rfl; omega)) (fun M60 I61 K62 R63 E64 A65 V66 => ?_)
                    have z67 := (V66 1).trans z46
                    have z68 := (V66 27).trans z47
                    have z69 := (V66 32).trans z48
                    have z70 := (V66 49).trans z49
                    have z71 := (V66 53).trans z50
                    have z72 := (A65 54 (by decide) rfl ((rv M0 o0 53).toNat)).trans z52
                    have K73 : ∀ i : Nat, i < 880 → 0 ≤ ra M60 o0 8 i := (by have e9 := ((sA_a A65 (by decide +kernel)) : sA [8] _ _ _) 8 rfl; rw [e9]; exact K53)
                    have K74 : rX M60 o0 := K54.same (sA_a A65 (by decide +kernel)) (sF_a V66)
                    have K75 : ∀ i, ra M60 o0 58 i = ra M0 o0 58 i := (fun i => (congrFun (((sA_a A65 (by decide +kernel)) : sA [58] _ _ _) 58 rfl) i).trans (K55 i))
                    have K76 : ∀ i, ra M60 o0 59 i = ra M0 o0 59 i := (fun i => (congrFun (((sA_a A65 (by decide +kernel)) : sA [59] _ _ _) 59 rfl) i).trans (K56 i))
                    have K77 : sA [6, 7, 8, 28] M0 M60 o0 := K57.trans (sA_a A65 (by decide +kernel))
                    clear z46 z47 z48 z49 z50 z52
                    refine mv_aload_n d_TrustDeskModel_propose_128 rfl rfl ?_
                    obtain ⟨a79, q78, t_a79⟩ := tm_atR I61 h_o0 (k := 56) rfl
                    refine tr_getK q78 d_TrustDeskModel_propose_129 f_TrustDeskModel_128_13 ?_
                    refine mv_aload_n d_TrustDeskModel_propose_132 rfl rfl ?_
                    refine tr_getK (k := 53) (K62 _ 13 53 _ (K41 _ 13 53 _ q30)) d_TrustDeskModel_propose_133 f_TrustDeskModel_501_13 ?_
                    refine mv_iload_n d_TrustDeskModel_propose_136 rfl rfl ?_
                    refine tr_iastR (k := 56) I61 R63 (I61.up h_o0) q78 t_a79 (by decide) (by decide) (fun lo hi h => by cases h) (Or.inl (by decide)) d_TrustDeskModel_propose_137 (vp_in_iff.mpr (by have := R63.1 1 _ _ rfl; have := R63.1 27 _ _ rfl; have := R63.1 32 _ _ rfl; have := R63.1 49 _ _ rfl; have := R63.1 53 _ _ rfl; omega)) (fun M80 I81 K82 R83 E84 A85 V86 => ?_)
                    have z87 := (V86 1).trans z67
                    have z88 := (V86 27).trans z68
                    have z89 := (V86 32).trans z69
                    have z90 := (V86 49).trans z70
                    have z91 := (V86 53).trans z71
                    have z92 := (A85 54 (by decide) rfl ((rv M0 o0 53).toNat)).trans z72
                    have h93 : (rv M0 o0 53).toNat = v31.toNatClampNeg := by have := mz_nat9 (i := v31) (by have := R63.1 1 _ _ rfl; have := R63.1 27 _ _ rfl; have := R63.1 32 _ _ rfl; have := R63.1 49 _ _ rfl; have := R63.1 53 _ _ rfl; omega); have := R63.1 1 _ _ rfl; have := R63.1 27 _ _ rfl; have := R63.1 32 _ _ rfl; have := R63.1 49 _ _ rfl; have := R63.1 53 _ _ rfl; omega
                    have z94 : ra M80 o0 56 ((rv M0 o0 53).toNat) = x3.toInt := (E84 _).trans (if_pos h93)
                    have K95 : ∀ i : Nat, i < 880 → 0 ≤ ra M80 o0 8 i := (by have e9 := ((sA_a A85 (by decide +kernel)) : sA [8] _ _ _) 8 rfl; rw [e9]; exact K73)
                    have K96 : rX M80 o0 := K74.out A85 E84 V86 (Or.inr rfl) (by have := mz_nat9 (i := v31) (by have := R63.1 1 _ _ rfl; have := R63.1 27 _ _ rfl; have := R63.1 32 _ _ rfl; have := R63.1 49 _ _ rfl; have := R63.1 53 _ _ rfl; omega); have := R63.1 1 _ _ rfl; have := R63.1 27 _ _ rfl; have := R63.1 32 _ _ rfl; have := R63.1 49 _ _ rfl; have := R63.1 53 _ _ rfl; omega)
                    have K97 : ∀ i, ra M80 o0 58 i = ra M0 o0 58 i := (fun i => (congrFun (((sA_a A85 (by decide +kernel)) : sA [58] _ _ _) 58 rfl) i).trans (K75 i))
                    have K98 : ∀ i, ra M80 o0 59 i = ra M0 o0 59 i := (fun i => (congrFun (((sA_a A85 (by decide +kernel)) : sA [59] _ _ _) 59 rfl) i).trans (K76 i))
                    have K99 : sA [6, 7, 8, 28] M0 M80 o0 := K77.trans (sA_a A85 (by decide +kernel))
                    clear z67 z68 z69 z70 z71 z72
                    refine mv_aload_n d_TrustDeskModel_propose_138 rfl rfl ?_
                    obtain ⟨a101, q100, t_a101⟩ := tm_atR I81 h_o0 (k := 57) rfl
                    refine tr_getK q100 d_TrustDeskModel_propose_139 f_TrustDeskModel_131_13 ?_
                    refine mv_aload_n d_TrustDeskModel_propose_142 rfl rfl ?_
                    refine tr_getK (k := 53) (K82 _ 13 53 _ (K62 _ 13 53 _ (K41 _ 13 53 _ q30))) d_TrustDeskModel_propose_143 f_TrustDeskModel_501_13 ?_
                    refine mv_aload_n d_TrustDeskModel_propose_146 rfl rfl ?_
                    obtain ⟨v103, q102⟩ := tm_atI I81 h_o0 (k := 1) rfl
                    refine tr_getK q102 d_TrustDeskModel_propose_147 f_TrustDeskModel_164_13 ?_
                    have := R83.f (k := 1) q102 rfl
                    have := (tm_rv q102).symm.trans z87
                    have := tm_rv q102
                    refine tr_iastR (k := 57) I81 R83 (I81.up h_o0) q100 t_a101 (by decide) (by decide) (fun lo hi h => by cases h) (Or.inl (by decide)) d_TrustDeskModel_propose_150 (vp_in_iff.mpr (by have := R83.1 1 _ _ rfl; have := R83.1 27 _ _ rfl; have := R83.1 32 _ _ rfl; have := R83.1 49 _ _ rfl; have := R83.1 53 _ _ rfl; omega)) (fun M104 I105 K106 R107 E108 A109 V110 => ?_)
                    have z111 := (V110 1).trans z87
                    have z112 := (V110 27).trans z88
                    have z113 := (V110 32).trans z89
                    have z114 := (V110 49).trans z90
                    have z115 := (V110 53).trans z91
                    have z116 := (A109 54 (by decide) rfl ((rv M0 o0 53).toNat)).trans z92
                    have z117 := (A109 56 (by decide) rfl ((rv M0 o0 53).toNat)).trans z94
                    have K118 : ∀ i : Nat, i < 880 → 0 ≤ ra M104 o0 8 i := (by have e9 := ((sA_a A109 (by decide +kernel)) : sA [8] _ _ _) 8 rfl; rw [e9]; exact K95)
                    have K119 : rX M104 o0 := K96.same (sA_a A109 (by decide +kernel)) (sF_a V110)
                    have K120 : ∀ i, ra M104 o0 58 i = ra M0 o0 58 i := (fun i => (congrFun (((sA_a A109 (by decide +kernel)) : sA [58] _ _ _) 58 rfl) i).trans (K97 i))
                    have K121 : ∀ i, ra M104 o0 59 i = ra M0 o0 59 i := (fun i => (congrFun (((sA_a A109 (by decide +kernel)) : sA [59] _ _ _) 59 rfl) i).trans (K98 i))
                    have K122 : sA [6, 7, 8, 28] M0 M104 o0 := K99.trans (sA_a A109 (by decide +kernel))
                    clear z87 z88 z89 z90 z91 z92 z94
                    refine mv_aload_n d_TrustDeskModel_propose_151 rfl rfl ?_
                    obtain ⟨a124, q123, t_a124⟩ := tm_atR I105 h_o0 (k := 58) rfl
                    refine tr_getK q123 d_TrustDeskModel_propose_152 f_TrustDeskModel_134_13 ?_
                    refine mv_aload_n d_TrustDeskModel_propose_155 rfl rfl ?_
                    refine tr_getK (k := 53) (K106 _ 13 53 _ (K82 _ 13 53 _ (K62 _ 13 53 _ (K41 _ 13 53 _ q30)))) d_TrustDeskModel_propose_156 f_TrustDeskModel_501_13 ?_
                    refine mv_aload_n d_TrustDeskModel_propose_159 rfl rfl ?_
                    refine tr_getK (k := 1) (K106 _ 13 1 _ q102) d_TrustDeskModel_propose_160 f_TrustDeskModel_164_13 ?_
                    refine mv_aload_n d_TrustDeskModel_propose_163 rfl rfl ?_
                    refine mv_aload_n d_TrustDeskModel_propose_164 rfl rfl ?_
                    refine tr_getK (k := 1) (K106 _ 13 1 _ q102) d_TrustDeskModel_propose_165 f_TrustDeskModel_164_13 ?_
                    refine mv_iconst (v := 2) d_TrustDeskModel_propose_168 (by decide) ?_
                    obtain ⟨_, b131, -⟩ := I105.1 _ _ h_o0
                    have : (2 : Int32).toInt = 2 := by decide
                    refine mv_callV (kc' := 0) (ks' := 0) (As := [.int v103, .int 2]) (st9 := [.int 2, .int v103, .ref o0, .int v103, .int v31, .ref a124]) d_TrustDeskModel_propose_169 lV_TrustDeskModel_396 b131 rfl (tc_TrustDeskModel_toldOn_a (d := d) (x9 := x9) (o0 := o0) (x1 := v103) (x2 := 2) h_o0 R107 K118 (by decide) I105.start) rfl (Nat.le_of_ble_eq_true rfl) (Nat.le_of_ble_eq_true rfl) (Nat.le_of_ble_eq_true rfl) (hst := rfl) (fun b125r M126 n127 b125 => ?_)
                    obtain ⟨T128, J129, v132, rfl, R133, f134, f135⟩ := b125
                    have I130 := I105.call J129 (tm_sub (by decide)) (Or.inl rfl)
                    have t136 := J129.up h_o0
                    have t137 := J129.up t_a124
                    have z138 := (rv_c I105 J129 (I105.up h_o0) (k := 1) rfl).trans z111
                    have z139 := (rv_c I105 J129 (I105.up h_o0) (k := 27) rfl).trans z112
                    have z140 := (rv_c I105 J129 (I105.up h_o0) (k := 32) rfl).trans z113
                    have z141 := (rv_c I105 J129 (I105.up h_o0) (k := 49) rfl).trans z114
                    have z142 := (rv_c I105 J129 (I105.up h_o0) (k := 53) rfl).trans z115
                    have z143 := (ra_call I105 J129 (I105.up h_o0) (k := 54) rfl rfl rfl ((rv M0 o0 53).toNat)).trans z116
                    have z144 := (ra_call I105 J129 (I105.up h_o0) (k := 56) rfl rfl rfl ((rv M0 o0 53).toNat)).trans z117
                    have K145 : ∀ i : Nat, i < 880 → 0 ≤ ra M126 o0 8 i := (by have e9 := ((sA_c I105 J129 (I105.up h_o0) (by decide +kernel)) : sA [8] _ _ _) 8 rfl; rw [e9]; exact K118)
                    have K146 : rX M126 o0 := K119.same (sA_c I105 J129 (I105.up h_o0) (by decide +kernel)) (sF_c I105 J129 (I105.up h_o0) (by decide +kernel))
                    have K147 : ∀ i, ra M126 o0 58 i = ra M0 o0 58 i := (fun i => (congrFun (((sA_c I105 J129 (I105.up h_o0) (by decide +kernel)) : sA [58] _ _ _) 58 rfl) i).trans (K120 i))
                    have K148 : ∀ i, ra M126 o0 59 i = ra M0 o0 59 i := (fun i => (congrFun (((sA_c I105 J129 (I105.up h_o0) (by decide +kernel)) : sA [59] _ _ _) 59 rfl) i).trans (K121 i))
                    have K149 : sA [6, 7, 8, 28] M0 M126 o0 := K122.trans (sA_c I105 J129 (I105.up h_o0) (by decide +kernel))
                    have h150 := f135.trans (p_tr_same K122 z112)
                    clear z111 z112 z113 z114 z115 z116 z117
                    have q151 := J129.keep h_o0 (by decide) (K106 _ 13 0 _ (K82 _ 13 0 _ (K62 _ 13 0 _ (K41 _ 13 0 _ q8))))
                    have q152 := J129.keep h_o0 (by decide) (K106 _ 13 32 _ (K82 _ 13 32 _ (K62 _ 13 32 _ (K41 _ 13 32 _ q25))))
                    have q153 := J129.keep h_o0 (by decide) (K106 _ 13 53 _ (K82 _ 13 53 _ (K62 _ 13 53 _ (K41 _ 13 53 _ q30))))
                    have q154 := J129.keep h_o0 (by decide) (K106 _ 13 54 _ (K82 _ 13 54 _ (K62 _ 13 54 _ (K41 _ 13 54 _ q37))))
                    have t155 := J129.up t_a38
                    have q156 := J129.keep h_o0 (by decide) (K106 _ 13 55 _ (K82 _ 13 55 _ (K62 _ 13 55 _ q58)))
                    have t157 := J129.up t_a59
                    have q158 := J129.keep h_o0 (by decide) (K106 _ 13 56 _ (K82 _ 13 56 _ q78))
                    have t159 := J129.up t_a79
                    have q160 := J129.keep h_o0 (by decide) (K106 _ 13 57 _ q100)
                    have t161 := J129.up t_a101
                    have q162 := J129.keep h_o0 (by decide) (K106 _ 13 1 _ q102)
                    have q163 := J129.keep h_o0 (by decide) q123
                    refine mv_iadd d_TrustDeskModel_propose_172 ?_
                    refine tr_iastR (k := 58) I130 R133 (I130.up h_o0) q163 t137 (by decide) (by decide) (fun lo hi h => by cases h) (Or.inl (by decide)) d_TrustDeskModel_propose_173 (vp_in_iff.mpr (by have := R133.1 1 _ _ rfl; have := R133.1 27 _ _ rfl; have := R133.1 32 _ _ rfl; have := R133.1 49 _ _ rfl; have := R133.1 53 _ _ rfl; omega)) (fun M164 I165 K166 R167 E168 A169 V170 => ?_)
                    have z171 := (V170 1).trans z138
                    have z172 := (V170 27).trans z139
                    have z173 := (V170 32).trans z140
                    have z174 := (V170 49).trans z141
                    have z175 := (V170 53).trans z142
                    have z176 := (A169 54 (by decide) rfl ((rv M0 o0 53).toNat)).trans z143
                    have z177 := (A169 56 (by decide) rfl ((rv M0 o0 53).toNat)).trans z144
                    have K178 : ∀ i : Nat, i < 880 → 0 ≤ ra M164 o0 8 i := (by have e9 := ((sA_a A169 (by decide +kernel)) : sA [8] _ _ _) 8 rfl; rw [e9]; exact K145)
                    have K179 : rX M164 o0 := K146.same (sA_a A169 (by decide +kernel)) (sF_a V170)
                    have b180 : (v103 + v132 : Int32).toInt = (v103.toInt + v132.toInt) := mz_add2 rfl rfl (by have := R133.1 1 _ _ rfl; have := R133.1 27 _ _ rfl; have := R133.1 32 _ _ rfl; have := R133.1 49 _ _ rfl; have := R133.1 53 _ _ rfl; omega) (by have := R133.1 1 _ _ rfl; have := R133.1 27 _ _ rfl; have := R133.1 32 _ _ rfl; have := R133.1 49 _ _ rfl; have := R133.1 53 _ _ rfl; omega)
                    have h181 : (v103 + v132).toInt = rv M0 o0 1 + p_tr M0 o0 (rv M0 o0 1) 2 := by have e8 := h150; rw [show ((2 : Int32).toInt).toNat = 2 from by decide, show (v103 : Int32).toInt = rv M0 o0 1 from by omega] at e8; omega
                    have K182 : ∀ i, ra M164 o0 58 i = if i = (rv M0 o0 53).toNat then rv M0 o0 1 + p_tr M0 o0 (rv M0 o0 1) 2 else ra M0 o0 58 i := (fun i => (E168 i).trans (by rw [show v31.toNatClampNeg = (rv M0 o0 53).toNat from by have := mz_nat9 (i := v31) (by have := R133.1 1 _ _ rfl; have := R133.1 27 _ _ rfl; have := R133.1 32 _ _ rfl; have := R133.1 49 _ _ rfl; have := R133.1 53 _ _ rfl; omega); have := R133.1 1 _ _ rfl; have := R133.1 27 _ _ rfl; have := R133.1 32 _ _ rfl; have := R133.1 49 _ _ rfl; have := R133.1 53 _ _ rfl; omega, h181, K147 i]))
                    have K183 : ∀ i, ra M164 o0 59 i = ra M0 o0 59 i := (fun i => (congrFun (((sA_a A169 (by decide +kernel)) : sA [59] _ _ _) 59 rfl) i).trans (K148 i))
                    have K184 : sA [6, 7, 8, 28] M0 M164 o0 := K149.trans (sA_a A169 (by decide +kernel))
                    clear z138 z139 z140 z141 z142 z143 z144
                    refine mv_aload_n d_TrustDeskModel_propose_174 rfl rfl ?_
                    obtain ⟨a186, q185, t_a186⟩ := tm_atR I165 t136 (k := 59) rfl
                    refine tr_getK q185 d_TrustDeskModel_propose_175 f_TrustDeskModel_137_13 ?_
                    refine mv_aload_n d_TrustDeskModel_propose_178 rfl rfl ?_
                    refine tr_getK (k := 53) (K166 _ 13 53 _ q153) d_TrustDeskModel_propose_179 f_TrustDeskModel_501_13 ?_
                    refine mv_iconst (v := 0) d_TrustDeskModel_propose_182 (by decide) ?_
                    refine tr_iastR (k := 59) I165 R167 (I165.up h_o0) q185 t_a186 (by decide) (by decide) (fun lo hi h => by cases h) (Or.inl (by decide)) d_TrustDeskModel_propose_183 (vp_in_iff.mpr (by have := R167.1 1 _ _ rfl; have := R167.1 27 _ _ rfl; have := R167.1 32 _ _ rfl; have := R167.1 49 _ _ rfl; have := R167.1 53 _ _ rfl; omega)) (fun M187 I188 K189 R190 E191 A192 V193 => ?_)
                    have z194 := (V193 1).trans z171
                    have z195 := (V193 27).trans z172
                    have z196 := (V193 32).trans z173
                    have z197 := (V193 49).trans z174
                    have z198 := (V193 53).trans z175
                    have z199 := (A192 54 (by decide) rfl ((rv M0 o0 53).toNat)).trans z176
                    have z200 := (A192 56 (by decide) rfl ((rv M0 o0 53).toNat)).trans z177
                    have K201 : ∀ i : Nat, i < 880 → 0 ≤ ra M187 o0 8 i := (by have e9 := ((sA_a A192 (by decide +kernel)) : sA [8] _ _ _) 8 rfl; rw [e9]; exact K178)
                    have K202 : rX M187 o0 := K179.same (sA_a A192 (by decide +kernel)) (sF_a V193)
                    have K203 : ∀ i, ra M187 o0 58 i = if i = (rv M0 o0 53).toNat then rv M0 o0 1 + p_tr M0 o0 (rv M0 o0 1) 2 else ra M0 o0 58 i := (fun i => (congrFun (((sA_a A192 (by decide +kernel)) : sA [58] _ _ _) 58 rfl) i).trans (K182 i))
                    have K204 : ∀ i, ra M187 o0 59 i = if i = (rv M0 o0 53).toNat then 0 else ra M0 o0 59 i := (fun i => (E191 i).trans (by rw [show v31.toNatClampNeg = (rv M0 o0 53).toNat from by have := mz_nat9 (i := v31) (by have := R167.1 1 _ _ rfl; have := R167.1 27 _ _ rfl; have := R167.1 32 _ _ rfl; have := R167.1 49 _ _ rfl; have := R167.1 53 _ _ rfl; omega); have := R167.1 1 _ _ rfl; have := R167.1 27 _ _ rfl; have := R167.1 32 _ _ rfl; have := R167.1 49 _ _ rfl; have := R167.1 53 _ _ rfl; omega, show (0 : Int32).toInt = 0 from by decide, K183 i]))
                    have K205 : sA [6, 7, 8, 28] M0 M187 o0 := K184.trans (sA_a A192 (by decide +kernel))
                    clear z171 z172 z173 z174 z175 z176 z177
                    refine mv_aload_n d_TrustDeskModel_propose_184 rfl rfl ?_
                    refine mv_dup d_TrustDeskModel_propose_185 rfl ?_
                    refine tr_getK (k := 53) (K189 _ 13 53 _ (K166 _ 13 53 _ q153)) d_TrustDeskModel_propose_186 f_TrustDeskModel_501_13 ?_
                    refine mv_iconst (v := 1) d_TrustDeskModel_propose_189 (by decide) ?_
                    refine mv_iadd d_TrustDeskModel_propose_190 ?_
                    have b206 : (v31 + 1 : Int32).toInt = (v31.toInt + 1) := mz_add2 rfl (by decide) (by have := R190.1 1 _ _ rfl; have := R190.1 27 _ _ rfl; have := R190.1 32 _ _ rfl; have := R190.1 49 _ _ rfl; have := R190.1 53 _ _ rfl; omega) (by have := R190.1 1 _ _ rfl; have := R190.1 27 _ _ rfl; have := R190.1 32 _ _ rfl; have := R190.1 49 _ _ rfl; have := R190.1 53 _ _ rfl; omega)
                    refine tr_putR (k := 53) I188 R190 t136 rfl ⟨_, rfl⟩ (fun _ h => by cases h) rfl (fun lo hi h => by cases h; have := R190.1 1 _ _ rfl; have := R190.1 27 _ _ rfl; have := R190.1 32 _ _ rfl; have := R190.1 49 _ _ rfl; have := R190.1 53 _ _ rfl; exact ⟨by show (0 : Int) ≤ (v31 + 1).toInt; omega, by show (v31 + 1).toInt ≤ (40 : Int); omega⟩) (Or.inl (by decide)) d_TrustDeskModel_propose_191 p_TrustDeskModel_501_13 rfl rfl (fun M207 I208 q209 K210 R211 A212 V213 => ?_)
                    have z214 := (V213 1 (by decide)).trans z194
                    have z215 := (V213 27 (by decide)).trans z195
                    have z216 := (V213 32 (by decide)).trans z196
                    have z217 := (V213 49 (by decide)).trans z197
                    have z218 := (A212 54 (by decide) ((rv M0 o0 53).toNat)).trans z199
                    have z219 := (A212 56 (by decide) ((rv M0 o0 53).toNat)).trans z200
                    have z220 : rv M207 o0 53 = (v31 + 1).toInt := tm_rv q209
                    have K221 : ∀ i : Nat, i < 880 → 0 ≤ ra M207 o0 8 i := (by have e9 := ((sA_f A212 (by decide)) : sA [8] _ _ _) 8 rfl; rw [e9]; exact K201)
                    have K222 : rX M207 o0 := K202.inc (n := (rv M0 o0 53).toNat) A212 V213 (by omega) (by have := R190.1 1 _ _ rfl; have := R190.1 27 _ _ rfl; have := R190.1 32 _ _ rfl; have := R190.1 49 _ _ rfl; have := R190.1 53 _ _ rfl; omega) (by have := R190.1 1 _ _ rfl; have := R190.1 27 _ _ rfl; have := R190.1 32 _ _ rfl; have := R190.1 49 _ _ rfl; have := R190.1 53 _ _ rfl; omega) (fun _ => by omega) (fun _ => by omega) (fun _ => by omega)
                    have K223 : ∀ i, ra M207 o0 58 i = if i = (rv M0 o0 53).toNat then rv M0 o0 1 + p_tr M0 o0 (rv M0 o0 1) 2 else ra M0 o0 58 i := (fun i => (congrFun (((sA_f A212 (by decide)) : sA [58] _ _ _) 58 rfl) i).trans (K203 i))
                    have K224 : ∀ i, ra M207 o0 59 i = if i = (rv M0 o0 53).toNat then 0 else ra M0 o0 59 i := (fun i => (congrFun (((sA_f A212 (by decide)) : sA [59] _ _ _) 59 rfl) i).trans (K204 i))
                    have K225 : sA [6, 7, 8, 28] M0 M207 o0 := K205.trans (sA_f A212 (by decide))
                    clear z194 z195 z196 z197 z199 z200
                    refine mv_aload_n d_TrustDeskModel_propose_194 rfl rfl ?_
                    refine tr_getK (k := 53) q209 d_TrustDeskModel_propose_195 f_TrustDeskModel_501_13 ?_
                    refine mv_iconst (v := 1) d_TrustDeskModel_propose_198 (by decide) ?_
                    refine mv_isubv (v := v31) d_TrustDeskModel_propose_199 (Int32.add_sub_cancel _ _) ?_
                    exact mv_iret d_TrustDeskModel_propose_200 rfl (by first | rfl | decide) ⟨_, I208, _, rfl, R211, K222, (by have := R211.1 1 _ _ rfl; have := R211.1 27 _ _ rfl; have := R211.1 32 _ _ rfl; have := R211.1 49 _ _ rfl; have := R211.1 53 _ _ rfl; omega), (fun h9 => absurd h9 (by omega)), (fun _ => ⟨K223, K224⟩)⟩
                · refine mv_iload_n d_TrustDeskModel_propose_78 rfl rfl ?_
                  refine mv_i2l (v := x3.toInt64) d_TrustDeskModel_propose_79 rfl ?_
                  refine mv_lconst (v := 1) d_TrustDeskModel_propose_80 (by decide) ?_
                  refine mv_ldc2 d_TrustDeskModel_propose_81 k_TrustDeskModel_421 ?_
                  refine mv_callS (kc1 := 0) (ks1 := 0) (kc' := 0) (ks' := 0) (As := [.long x3.toInt64, .long 1, .long 999]) (st9 := [.long 999, .long 1, .long x3.toInt64]) d_TrustDeskModel_propose_84 lS_TrustDeskModel_169 (mj_enter (by decide) (Nat.le_of_ble_eq_true rfl) ?_) rfl (Nat.le_of_ble_eq_true rfl) (Nat.le_of_ble_eq_true rfl) (Nat.le_of_ble_eq_true rfl) (hst := rfl) (fun _ _ _ h => h)
                  refine mv_lload_n d_TrustDeskModel_within_0 rfl rfl ?_
                  refine mv_lload_n d_TrustDeskModel_within_1 rfl rfl ?_
                  refine mv_lltZ (tgt := 17) (a := x3.toInt) (b := 1) d_TrustDeskModel_within_2 d_TrustDeskModel_within_3 (by decide) (mz_wide _) (by decide) (fun b226 => ?_) (fun b226 => ?_)
                  · refine mv_iconst (v := 0) d_TrustDeskModel_within_17 (by decide) ?_
                    refine mv_iret d_TrustDeskModel_within_18 rfl (by decide) ?_
                    refine mv_goto (tgt := 99) d_TrustDeskModel_propose_87 (by decide) ?_
                    refine mv_istore (lv' := [(4, .int 0), (0, .ref o0), (1, .int x1), (2, .int x2), (3, .int x3)]) d_TrustDeskModel_propose_99 (by decide) rfl ?_
                    refine mv_iload d_TrustDeskModel_propose_101 rfl ?_
                    refine mv_if_ne_f (tgt := 108) d_TrustDeskModel_propose_103 (by decide) (by decide) ?_
                    refine mv_iconst (v := (-1)) d_TrustDeskModel_propose_106 (by decide) ?_
                    exact mv_iret d_TrustDeskModel_propose_107 rfl (by first | rfl | decide) ⟨_, I7, _, rfl, R10, K19, (by have e9 : ((-1) : Int32).toInt = (-1) := (by decide); have := R10.1 1 _ _ rfl; have := R10.1 27 _ _ rfl; have := R10.1 32 _ _ rfl; have := R10.1 49 _ _ rfl; have := R10.1 53 _ _ rfl; omega), (fun _ => ⟨K20, K21⟩), (fun h9 => absurd (by decide) h9)⟩
                  · refine mv_lload_n d_TrustDeskModel_within_6 rfl rfl ?_
                    refine mv_lload d_TrustDeskModel_within_7 rfl ?_
                    refine mv_lgtZ (tgt := 17) (a := x3.toInt) (b := 999) d_TrustDeskModel_within_9 d_TrustDeskModel_within_10 (by decide) (mz_wide _) (by decide) (fun b227 => ?_) (fun b227 => ?_)
                    · refine mv_iconst (v := 0) d_TrustDeskModel_within_17 (by decide) ?_
                      refine mv_iret d_TrustDeskModel_within_18 rfl (by decide) ?_
                      refine mv_goto (tgt := 99) d_TrustDeskModel_propose_87 (by decide) ?_
                      refine mv_istore (lv' := [(4, .int 0), (0, .ref o0), (1, .int x1), (2, .int x2), (3, .int x3)]) d_TrustDeskModel_propose_99 (by decide) rfl ?_
                      refine mv_iload d_TrustDeskModel_propose_101 rfl ?_
                      refine mv_if_ne_f (tgt := 108) d_TrustDeskModel_propose_103 (by decide) (by decide) ?_
                      refine mv_iconst (v := (-1)) d_TrustDeskModel_propose_106 (by decide) ?_
                      exact mv_iret d_TrustDeskModel_propose_107 rfl (by first | rfl | decide) ⟨_, I7, _, rfl, R10, K19, (by have e9 : ((-1) : Int32).toInt = (-1) := (by decide); have := R10.1 1 _ _ rfl; have := R10.1 27 _ _ rfl; have := R10.1 32 _ _ rfl; have := R10.1 49 _ _ rfl; have := R10.1 53 _ _ rfl; omega), (fun _ => ⟨K20, K21⟩), (fun h9 => absurd (by decide) h9)⟩
                    · refine mv_iconst (v := 1) d_TrustDeskModel_within_13 (by decide) ?_
                      refine mv_goto (tgt := 18) d_TrustDeskModel_within_14 (by decide) ?_
                      refine mv_iret d_TrustDeskModel_within_18 rfl (by decide) ?_
                      refine mv_goto (tgt := 99) d_TrustDeskModel_propose_87 (by decide) ?_
                      refine mv_istore (lv' := [(4, .int 1), (0, .ref o0), (1, .int x1), (2, .int x2), (3, .int x3)]) d_TrustDeskModel_propose_99 (by decide) rfl ?_
                      refine mv_iload d_TrustDeskModel_propose_101 rfl ?_
                      refine mv_if_ne_t (tgt := 108) d_TrustDeskModel_propose_103 (by decide) (by decide) ?_
                      refine mv_aload_n d_TrustDeskModel_propose_108 rfl rfl ?_
                      obtain ⟨a229, q228, t_a229⟩ := tm_atR I7 h_o0 (k := 54) rfl
                      refine tr_getK q228 d_TrustDeskModel_propose_109 f_TrustDeskModel_122_13 ?_
                      refine mv_aload_n d_TrustDeskModel_propose_112 rfl rfl ?_
                      refine tr_getK (k := 53) q30 d_TrustDeskModel_propose_113 f_TrustDeskModel_501_13 ?_
                      refine mv_iload_n d_TrustDeskModel_propose_116 rfl rfl ?_
                      refine tr_iastR (k := 54) I7 R10 (I7.up h_o0) q228 t_a229 (by decide) (by decide) (fun lo hi h => by cases h; have := R10.1 1 _ _ rfl; have := R10.1 27 _ _ rfl; have := R10.1 32 _ _ rfl; have := R10.1 49 _ _ rfl; have := R10.1 53 _ _ rfl; exact ⟨by show (0 : Int) ≤ x1.toInt; omega, by show x1.toInt ≤ (3 : Int); omega⟩) (Or.inl (by decide)) d_TrustDeskModel_propose_117 (vp_in_iff.mpr (by have := R10.1 1 _ _ rfl; have := R10.1 27 _ _ rfl; have := R10.1 32 _ _ rfl; have := R10.1 49 _ _ rfl; have := R10.1 53 _ _ rfl; omega)) (fun M230 I231 K232 R233 E234 A235 V236 => ?_)
                      have z237 := (V236 1).trans z13
                      have z238 := (V236 27).trans z14
                      have z239 := (V236 32).trans z15
                      have z240 := (V236 49).trans z16
                      have z241 := (V236 53).trans z17
                      have h242 : (rv M0 o0 53).toNat = v31.toNatClampNeg := by have := mz_nat9 (i := v31) (by have := R10.1 1 _ _ rfl; have := R10.1 27 _ _ rfl; have := R10.1 32 _ _ rfl; have := R10.1 49 _ _ rfl; have := R10.1 53 _ _ rfl; omega); have := R10.1 1 _ _ rfl; have := R10.1 27 _ _ rfl; have := R10.1 32 _ _ rfl; have := R10.1 49 _ _ rfl; have := R10.1 53 _ _ rfl; omega
                      have z243 : ra M230 o0 54 ((rv M0 o0 53).toNat) = x1.toInt := (E234 _).trans (if_pos h242)
                      have K244 : ∀ i : Nat, i < 880 → 0 ≤ ra M230 o0 8 i := (by have e9 := ((sA_a A235 (by decide +kernel)) : sA [8] _ _ _) 8 rfl; rw [e9]; exact K18)
                      have K245 : rX M230 o0 := K19.out A235 E234 V236 (Or.inl rfl) (by have := mz_nat9 (i := v31) (by have := R10.1 1 _ _ rfl; have := R10.1 27 _ _ rfl; have := R10.1 32 _ _ rfl; have := R10.1 49 _ _ rfl; have := R10.1 53 _ _ rfl; omega); have := R10.1 1 _ _ rfl; have := R10.1 27 _ _ rfl; have := R10.1 32 _ _ rfl; have := R10.1 49 _ _ rfl; have := R10.1 53 _ _ rfl; omega)
                      have K246 : ∀ i, ra M230 o0 58 i = ra M0 o0 58 i := (fun i => (congrFun (((sA_a A235 (by decide +kernel)) : sA [58] _ _ _) 58 rfl) i).trans (K20 i))
                      have K247 : ∀ i, ra M230 o0 59 i = ra M0 o0 59 i := (fun i => (congrFun (((sA_a A235 (by decide +kernel)) : sA [59] _ _ _) 59 rfl) i).trans (K21 i))
                      have K248 : sA [6, 7, 8, 28] M0 M230 o0 := K22.trans (sA_a A235 (by decide +kernel))
                      clear z13 z14 z15 z16 z17
                      refine mv_aload_n d_TrustDeskModel_propose_118 rfl rfl ?_
                      obtain ⟨a250, q249, t_a250⟩ := tm_atR I231 h_o0 (k := 55) rfl
                      refine tr_getK q249 d_TrustDeskModel_propose_119 f_TrustDeskModel_125_13 ?_
                      refine mv_aload_n d_TrustDeskModel_propose_122 rfl rfl ?_
                      refine tr_getK (k := 53) (K232 _ 13 53 _ q30) d_TrustDeskModel_propose_123 f_TrustDeskModel_501_13 ?_
                      refine mv_iload_n d_TrustDeskModel_propose_126 rfl rfl ?_
                      refine tr_iastR (k := 55) I231 R233 (I231.up h_o0) q249 t_a250 (by decide) (by decide) (fun lo hi h => by cases h; have := R233.1 1 _ _ rfl; have := R233.1 27 _ _ rfl; have := R233.1 32 _ _ rfl; have := R233.1 49 _ _ rfl; have := R233.1 53 _ _ rfl; exact ⟨by show (0 : Int) ≤ x2.toInt; omega, by show x2.toInt ≤ (11 : Int); omega⟩) (Or.inl (by decide)) d_TrustDeskModel_propose_127 (vp_in_iff.mpr (by have := R233.1 1 _ _ rfl; have := R233.1 27 _ _ rfl; have := R233.1 32 _ _ rfl; have := R233.1 49 _ _ rfl; have := R233.1 53 _ _ rfl; omega)) (fun M251 I252 K253 R254 E255 A256 V257 => ?_)
                      have z258 := (V257 1).trans z237
                      have z259 := (V257 27).trans z238
                      have z260 := (V257 32).trans z239
                      have z261 := (V257 49).trans z240
                      have z262 := (V257 53).trans z241
                      have z263 := (A256 54 (by decide) rfl ((rv M0 o0 53).toNat)).trans z243
                      have K264 : ∀ i : Nat, i < 880 → 0 ≤ ra M251 o0 8 i := (by have e9 := ((sA_a A256 (by decide +kernel)) : sA [8] _ _ _) 8 rfl; rw [e9]; exact K244)
                      have K265 : rX M251 o0 := K245.same (sA_a A256 (by decide +kernel)) (sF_a V257)
                      have K266 : ∀ i, ra M251 o0 58 i = ra M0 o0 58 i := (fun i => (congrFun (((sA_a A256 (by decide +kernel)) : sA [58] _ _ _) 58 rfl) i).trans (K246 i))
                      have K267 : ∀ i, ra M251 o0 59 i = ra M0 o0 59 i := (fun i => (congrFun (((sA_a A256 (by decide +kernel)) : sA [59] _ _ _) 59 rfl) i).trans (K247 i))
                      have K268 : sA [6, 7, 8, 28] M0 M251 o0 := K248.trans (sA_a A256 (by decide +kernel))
                      clear z237 z238 z239 z240 z241 z243
                      refine mv_aload_n d_TrustDeskModel_propose_128 rfl rfl ?_
                      obtain ⟨a270, q269, t_a270⟩ := tm_atR I252 h_o0 (k := 56) rfl
                      refine tr_getK q269 d_TrustDeskModel_propose_129 f_TrustDeskModel_128_13 ?_
                      refine mv_aload_n d_TrustDeskModel_propose_132 rfl rfl ?_
                      refine tr_getK (k := 53) (K253 _ 13 53 _ (K232 _ 13 53 _ q30)) d_TrustDeskModel_propose_133 f_TrustDeskModel_501_13 ?_
                      refine mv_iload_n d_TrustDeskModel_propose_136 rfl rfl ?_
                      refine tr_iastR (k := 56) I252 R254 (I252.up h_o0) q269 t_a270 (by decide) (by decide) (fun lo hi h => by cases h) (Or.inl (by decide)) d_TrustDeskModel_propose_137 (vp_in_iff.mpr (by have := R254.1 1 _ _ rfl; have := R254.1 27 _ _ rfl; have := R254.1 32 _ _ rfl; have := R254.1 49 _ _ rfl; have := R254.1 53 _ _ rfl; omega)) (fun M271 I272 K273 R274 E275 A276 V277 => ?_)
                      have z278 := (V277 1).trans z258
                      have z279 := (V277 27).trans z259
                      have z280 := (V277 32).trans z260
                      have z281 := (V277 49).trans z261
                      have z282 := (V277 53).trans z262
                      have z283 := (A276 54 (by decide) rfl ((rv M0 o0 53).toNat)).trans z263
                      have h284 : (rv M0 o0 53).toNat = v31.toNatClampNeg := by have := mz_nat9 (i := v31) (by have := R254.1 1 _ _ rfl; have := R254.1 27 _ _ rfl; have := R254.1 32 _ _ rfl; have := R254.1 49 _ _ rfl; have := R254.1 53 _ _ rfl; omega); have := R254.1 1 _ _ rfl; have := R254.1 27 _ _ rfl; have := R254.1 32 _ _ rfl; have := R254.1 49 _ _ rfl; have := R254.1 53 _ _ rfl; omega
                      have z285 : ra M271 o0 56 ((rv M0 o0 53).toNat) = x3.toInt := (E275 _).trans (if_pos h284)
                      have K286 : ∀ i : Nat, i < 880 → 0 ≤ ra M271 o0 8 i := (by have e9 := ((sA_a A276 (by decide +kernel)) : sA [8] _ _ _) 8 rfl; rw [e9]; exact K264)
                      have K287 : rX M271 o0 := K265.out A276 E275 V277 (Or.inr rfl) (by have := mz_nat9 (i := v31) (by have := R254.1 1 _ _ rfl; have := R254.1 27 _ _ rfl; have := R254.1 32 _ _ rfl; have := R254.1 49 _ _ rfl; have := R254.1 53 _ _ rfl; omega); have := R254.1 1 _ _ rfl; have := R254.1 27 _ _ rfl; have := R254.1 32 _ _ rfl; have := R254.1 49 _ _ rfl; have := R254.1 53 _ _ rfl; omega)
                      have K288 : ∀ i, ra M271 o0 58 i = ra M0 o0 58 i := (fun i => (congrFun (((sA_a A276 (by decide +kernel)) : sA [58] _ _ _) 58 rfl) i).trans (K266 i))
                      have K289 : ∀ i, ra M271 o0 59 i = ra M0 o0 59 i := (fun i => (congrFun (((sA_a A276 (by decide +kernel)) : sA [59] _ _ _) 59 rfl) i).trans (K267 i))
                      have K290 : sA [6, 7, 8, 28] M0 M271 o0 := K268.trans (sA_a A276 (by decide +kernel))
                      clear z258 z259 z260 z261 z262 z263
                      refine mv_aload_n d_TrustDeskModel_propose_138 rfl rfl ?_
                      obtain ⟨a292, q291, t_a292⟩ := tm_atR I272 h_o0 (k := 57) rfl
                      refine tr_getK q291 d_TrustDeskModel_propose_139 f_TrustDeskModel_131_13 ?_
                      refine mv_aload_n d_TrustDeskModel_propose_142 rfl rfl ?_
                      refine tr_getK (k := 53) (K273 _ 13 53 _ (K253 _ 13 53 _ (K232 _ 13 53 _ q30))) d_TrustDeskModel_propose_143 f_TrustDeskModel_501_13 ?_
                      refine mv_aload_n d_TrustDeskModel_propose_146 rfl rfl ?_
                      obtain ⟨v294, q293⟩ := tm_atI I272 h_o0 (k := 1) rfl
                      refine tr_getK q293 d_TrustDeskModel_propose_147 f_TrustDeskModel_164_13 ?_
                      have := R274.f (k := 1) q293 rfl
                      have := (tm_rv q293).symm.trans z278
                      have := tm_rv q293
                      refine tr_iastR (k := 57) I272 R274 (I272.up h_o0) q291 t_a292 (by decide) (by decide) (fun lo hi h => by cases h) (Or.inl (by decide)) d_TrustDeskModel_propose_150 (vp_in_iff.mpr (by have := R274.1 1 _ _ rfl; have := R274.1 27 _ _ rfl; have := R274.1 32 _ _ rfl; have := R274.1 49 _ _ rfl; have := R274.1 53 _ _ rfl; omega)) (fun M295 I296 K297 R298 E299 A300 V301 => ?_)
                      have z302 := (V301 1).trans z278
                      have z303 := (V301 27).trans z279
                      have z304 := (V301 32).trans z280
                      have z305 := (V301 49).trans z281
                      have z306 := (V301 53).trans z282
                      have z307 := (A300 54 (by decide) rfl ((rv M0 o0 53).toNat)).trans z283
                      have z308 := (A300 56 (by decide) rfl ((rv M0 o0 53).toNat)).trans z285
                      have K309 : ∀ i : Nat, i < 880 → 0 ≤ ra M295 o0 8 i := (by have e9 := ((sA_a A300 (by decide +kernel)) : sA [8] _ _ _) 8 rfl; rw [e9]; exact K286)
                      have K310 : rX M295 o0 := K287.same (sA_a A300 (by decide +kernel)) (sF_a V301)
                      have K311 : ∀ i, ra M295 o0 58 i = ra M0 o0 58 i := (fun i => (congrFun (((sA_a A300 (by decide +kernel)) : sA [58] _ _ _) 58 rfl) i).trans (K288 i))
                      have K312 : ∀ i, ra M295 o0 59 i = ra M0 o0 59 i := (fun i => (congrFun (((sA_a A300 (by decide +kernel)) : sA [59] _ _ _) 59 rfl) i).trans (K289 i))
                      have K313 : sA [6, 7, 8, 28] M0 M295 o0 := K290.trans (sA_a A300 (by decide +kernel))
                      clear z278 z279 z280 z281 z282 z283 z285
                      refine mv_aload_n d_TrustDeskModel_propose_151 rfl rfl ?_
                      obtain ⟨a315, q314, t_a315⟩ := tm_atR I296 h_o0 (k := 58) rfl
                      refine tr_getK q314 d_TrustDeskModel_propose_152 f_TrustDeskModel_134_13 ?_
                      refine mv_aload_n d_TrustDeskModel_propose_155 rfl rfl ?_
                      refine tr_getK (k := 53) (K297 _ 13 53 _ (K273 _ 13 53 _ (K253 _ 13 53 _ (K232 _ 13 53 _ q30)))) d_TrustDeskModel_propose_156 f_TrustDeskModel_501_13 ?_
                      refine mv_aload_n d_TrustDeskModel_propose_159 rfl rfl ?_
                      refine tr_getK (k := 1) (K297 _ 13 1 _ q293) d_TrustDeskModel_propose_160 f_TrustDeskModel_164_13 ?_
                      refine mv_aload_n d_TrustDeskModel_propose_163 rfl rfl ?_
                      refine mv_aload_n d_TrustDeskModel_propose_164 rfl rfl ?_
                      refine tr_getK (k := 1) (K297 _ 13 1 _ q293) d_TrustDeskModel_propose_165 f_TrustDeskModel_164_13 ?_
                      refine mv_iconst (v := 2) d_TrustDeskModel_propose_168 (by decide) ?_
                      obtain ⟨_, b322, -⟩ := I296.1 _ _ h_o0
                      have : (2 : Int32).toInt = 2 := by decide
                      refine mv_callV (kc' := 0) (ks' := 0) (As := [.int v294, .int 2]) (st9 := [.int 2, .int v294, .ref o0, .int v294, .int v31, .ref a315]) d_TrustDeskModel_propose_169 lV_TrustDeskModel_396 b322 rfl (tc_TrustDeskModel_toldOn_a (d := d) (x9 := x9) (o0 := o0) (x1 := v294) (x2 := 2) h_o0 R298 K309 (by decide) I296.start) rfl (Nat.le_of_ble_eq_true rfl) (Nat.le_of_ble_eq_true rfl) (Nat.le_of_ble_eq_true rfl) (hst := rfl) (fun b316r M317 n318 b316 => ?_)
                      obtain ⟨T319, J320, v323, rfl, R324, f325, f326⟩ := b316
                      have I321 := I296.call J320 (tm_sub (by decide)) (Or.inl rfl)
                      have t327 := J320.up h_o0
                      have t328 := J320.up t_a315
                      have z329 := (rv_c I296 J320 (I296.up h_o0) (k := 1) rfl).trans z302
                      have z330 := (rv_c I296 J320 (I296.up h_o0) (k := 27) rfl).trans z303
                      have z331 := (rv_c I296 J320 (I296.up h_o0) (k := 32) rfl).trans z304
                      have z332 := (rv_c I296 J320 (I296.up h_o0) (k := 49) rfl).trans z305
                      have z333 := (rv_c I296 J320 (I296.up h_o0) (k := 53) rfl).trans z306
                      have z334 := (ra_call I296 J320 (I296.up h_o0) (k := 54) rfl rfl rfl ((rv M0 o0 53).toNat)).trans z307
                      have z335 := (ra_call I296 J320 (I296.up h_o0) (k := 56) rfl rfl rfl ((rv M0 o0 53).toNat)).trans z308
                      have K336 : ∀ i : Nat, i < 880 → 0 ≤ ra M317 o0 8 i := (by have e9 := ((sA_c I296 J320 (I296.up h_o0) (by decide +kernel)) : sA [8] _ _ _) 8 rfl; rw [e9]; exact K309)
                      have K337 : rX M317 o0 := K310.same (sA_c I296 J320 (I296.up h_o0) (by decide +kernel)) (sF_c I296 J320 (I296.up h_o0) (by decide +kernel))
                      have K338 : ∀ i, ra M317 o0 58 i = ra M0 o0 58 i := (fun i => (congrFun (((sA_c I296 J320 (I296.up h_o0) (by decide +kernel)) : sA [58] _ _ _) 58 rfl) i).trans (K311 i))
                      have K339 : ∀ i, ra M317 o0 59 i = ra M0 o0 59 i := (fun i => (congrFun (((sA_c I296 J320 (I296.up h_o0) (by decide +kernel)) : sA [59] _ _ _) 59 rfl) i).trans (K312 i))
                      have K340 : sA [6, 7, 8, 28] M0 M317 o0 := K313.trans (sA_c I296 J320 (I296.up h_o0) (by decide +kernel))
                      have h341 := f326.trans (p_tr_same K313 z303)
                      clear z302 z303 z304 z305 z306 z307 z308
                      have q342 := J320.keep h_o0 (by decide) (K297 _ 13 0 _ (K273 _ 13 0 _ (K253 _ 13 0 _ (K232 _ 13 0 _ q8))))
                      have q343 := J320.keep h_o0 (by decide) (K297 _ 13 32 _ (K273 _ 13 32 _ (K253 _ 13 32 _ (K232 _ 13 32 _ q25))))
                      have q344 := J320.keep h_o0 (by decide) (K297 _ 13 53 _ (K273 _ 13 53 _ (K253 _ 13 53 _ (K232 _ 13 53 _ q30))))
                      have q345 := J320.keep h_o0 (by decide) (K297 _ 13 54 _ (K273 _ 13 54 _ (K253 _ 13 54 _ (K232 _ 13 54 _ q228))))
                      have t346 := J320.up t_a229
                      have q347 := J320.keep h_o0 (by decide) (K297 _ 13 55 _ (K273 _ 13 55 _ (K253 _ 13 55 _ q249)))
                      have t348 := J320.up t_a250
                      have q349 := J320.keep h_o0 (by decide) (K297 _ 13 56 _ (K273 _ 13 56 _ q269))
                      have t350 := J320.up t_a270
                      have q351 := J320.keep h_o0 (by decide) (K297 _ 13 57 _ q291)
                      have t352 := J320.up t_a292
                      have q353 := J320.keep h_o0 (by decide) (K297 _ 13 1 _ q293)
                      have q354 := J320.keep h_o0 (by decide) q314
                      refine mv_iadd d_TrustDeskModel_propose_172 ?_
                      refine tr_iastR (k := 58) I321 R324 (I321.up h_o0) q354 t328 (by decide) (by decide) (fun lo hi h => by cases h) (Or.inl (by decide)) d_TrustDeskModel_propose_173 (vp_in_iff.mpr (by have := R324.1 1 _ _ rfl; have := R324.1 27 _ _ rfl; have := R324.1 32 _ _ rfl; have := R324.1 49 _ _ rfl; have := R324.1 53 _ _ rfl; omega)) (fun M355 I356 K357 R358 E359 A360 V361 => ?_)
                      have z362 := (V361 1).trans z329
                      have z363 := (V361 27).trans z330
                      have z364 := (V361 32).trans z331
                      have z365 := (V361 49).trans z332
                      have z366 := (V361 53).trans z333
                      have z367 := (A360 54 (by decide) rfl ((rv M0 o0 53).toNat)).trans z334
                      have z368 := (A360 56 (by decide) rfl ((rv M0 o0 53).toNat)).trans z335
                      have K369 : ∀ i : Nat, i < 880 → 0 ≤ ra M355 o0 8 i := (by have e9 := ((sA_a A360 (by decide +kernel)) : sA [8] _ _ _) 8 rfl; rw [e9]; exact K336)
                      have K370 : rX M355 o0 := K337.same (sA_a A360 (by decide +kernel)) (sF_a V361)
                      have b371 : (v294 + v323 : Int32).toInt = (v294.toInt + v323.toInt) := mz_add2 rfl rfl (by have := R324.1 1 _ _ rfl; have := R324.1 27 _ _ rfl; have := R324.1 32 _ _ rfl; have := R324.1 49 _ _ rfl; have := R324.1 53 _ _ rfl; omega) (by have := R324.1 1 _ _ rfl; have := R324.1 27 _ _ rfl; have := R324.1 32 _ _ rfl; have := R324.1 49 _ _ rfl; have := R324.1 53 _ _ rfl; omega)
                      have h372 : (v294 + v323).toInt = rv M0 o0 1 + p_tr M0 o0 (rv M0 o0 1) 2 := by have e8 := h341; rw [show ((2 : Int32).toInt).toNat = 2 from by decide, show (v294 : Int32).toInt = rv M0 o0 1 from by omega] at e8; omega
                      have K373 : ∀ i, ra M355 o0 58 i = if i = (rv M0 o0 53).toNat then rv M0 o0 1 + p_tr M0 o0 (rv M0 o0 1) 2 else ra M0 o0 58 i := (fun i => (E359 i).trans (by rw [show v31.toNatClampNeg = (rv M0 o0 53).toNat from by have := mz_nat9 (i := v31) (by have := R324.1 1 _ _ rfl; have := R324.1 27 _ _ rfl; have := R324.1 32 _ _ rfl; have := R324.1 49 _ _ rfl; have := R324.1 53 _ _ rfl; omega); have := R324.1 1 _ _ rfl; have := R324.1 27 _ _ rfl; have := R324.1 32 _ _ rfl; have := R324.1 49 _ _ rfl; have := R324.1 53 _ _ rfl; omega, h372, K338 i]))
                      have K374 : ∀ i, ra M355 o0 59 i = ra M0 o0 59 i := (fun i => (congrFun (((sA_a A360 (by decide +kernel)) : sA [59] _ _ _) 59 rfl) i).trans (K339 i))
                      have K375 : sA [6, 7, 8, 28] M0 M355 o0 := K340.trans (sA_a A360 (by decide +kernel))
                      clear z329 z330 z331 z332 z333 z334 z335
                      refine mv_aload_n d_TrustDeskModel_propose_174 rfl rfl ?_
                      obtain ⟨a377, q376, t_a377⟩ := tm_atR I356 t327 (k := 59) rfl
                      refine tr_getK q376 d_TrustDeskModel_propose_175 f_TrustDeskModel_137_13 ?_
                      refine mv_aload_n d_TrustDeskModel_propose_178 rfl rfl ?_
                      refine tr_getK (k := 53) (K357 _ 13 53 _ q344) d_TrustDeskModel_propose_179 f_TrustDeskModel_501_13 ?_
                      refine mv_iconst (v := 0) d_TrustDeskModel_propose_182 (by decide) ?_
                      refine tr_iastR (k := 59) I356 R358 (I356.up h_o0) q376 t_a377 (by decide) (by decide) (fun lo hi h => by cases h) (Or.inl (by decide)) d_TrustDeskModel_propose_183 (vp_in_iff.mpr (by have := R358.1 1 _ _ rfl; have := R358.1 27 _ _ rfl; have := R358.1 32 _ _ rfl; have := R358.1 49 _ _ rfl; have := R358.1 53 _ _ rfl; omega)) (fun M378 I379 K380 R381 E382 A383 V384 => ?_)
                      have z385 := (V384 1).trans z362
                      have z386 := (V384 27).trans z363
                      have z387 := (V384 32).trans z364
                      have z388 := (V384 49).trans z365
                      have z389 := (V384 53).trans z366
                      have z390 := (A383 54 (by decide) rfl ((rv M0 o0 53).toNat)).trans z367
                      have z391 := (A383 56 (by decide) rfl ((rv M0 o0 53).toNat)).trans z368
                      have K392 : ∀ i : Nat, i < 880 → 0 ≤ ra M378 o0 8 i := (by have e9 := ((sA_a A383 (by decide +kernel)) : sA [8] _ _ _) 8 rfl; rw [e9]; exact K369)
                      have K393 : rX M378 o0 := K370.same (sA_a A383 (by decide +kernel)) (sF_a V384)
                      have K394 : ∀ i, ra M378 o0 58 i = if i = (rv M0 o0 53).toNat then rv M0 o0 1 + p_tr M0 o0 (rv M0 o0 1) 2 else ra M0 o0 58 i := (fun i => (congrFun (((sA_a A383 (by decide +kernel)) : sA [58] _ _ _) 58 rfl) i).trans (K373 i))
                      have K395 : ∀ i, ra M378 o0 59 i = if i = (rv M0 o0 53).toNat then 0 else ra M0 o0 59 i := (fun i => (E382 i).trans (by rw [show v31.toNatClampNeg = (rv M0 o0 53).toNat from by have := mz_nat9 (i := v31) (by have := R358.1 1 _ _ rfl; have := R358.1 27 _ _ rfl; have := R358.1 32 _ _ rfl; have := R358.1 49 _ _ rfl; have := R358.1 53 _ _ rfl; omega); have := R358.1 1 _ _ rfl; have := R358.1 27 _ _ rfl; have := R358.1 32 _ _ rfl; have := R358.1 49 _ _ rfl; have := R358.1 53 _ _ rfl; omega, show (0 : Int32).toInt = 0 from by decide, K374 i]))
                      have K396 : sA [6, 7, 8, 28] M0 M378 o0 := K375.trans (sA_a A383 (by decide +kernel))
                      clear z362 z363 z364 z365 z366 z367 z368
                      refine mv_aload_n d_TrustDeskModel_propose_184 rfl rfl ?_
                      refine mv_dup d_TrustDeskModel_propose_185 rfl ?_
                      refine tr_getK (k := 53) (K380 _ 13 53 _ (K357 _ 13 53 _ q344)) d_TrustDeskModel_propose_186 f_TrustDeskModel_501_13 ?_
                      refine mv_iconst (v := 1) d_TrustDeskModel_propose_189 (by decide) ?_
                      refine mv_iadd d_TrustDeskModel_propose_190 ?_
                      have b397 : (v31 + 1 : Int32).toInt = (v31.toInt + 1) := mz_add2 rfl (by decide) (by have := R381.1 1 _ _ rfl; have := R381.1 27 _ _ rfl; have := R381.1 32 _ _ rfl; have := R381.1 49 _ _ rfl; have := R381.1 53 _ _ rfl; omega) (by have := R381.1 1 _ _ rfl; have := R381.1 27 _ _ rfl; have := R381.1 32 _ _ rfl; have := R381.1 49 _ _ rfl; have := R381.1 53 _ _ rfl; omega)
                      refine tr_putR (k := 53) I379 R381 t327 rfl ⟨_, rfl⟩ (fun _ h => by cases h) rfl (fun lo hi h => by cases h; have := R381.1 1 _ _ rfl; have := R381.1 27 _ _ rfl; have := R381.1 32 _ _ rfl; have := R381.1 49 _ _ rfl; have := R381.1 53 _ _ rfl; exact ⟨by show (0 : Int) ≤ (v31 + 1).toInt; omega, by show (v31 + 1).toInt ≤ (40 : Int); omega⟩) (Or.inl (by decide)) d_TrustDeskModel_propose_191 p_TrustDeskModel_501_13 rfl rfl (fun M398 I399 q400 K401 R402 A403 V404 => ?_)
                      have z405 := (V404 1 (by decide)).trans z385
                      have z406 := (V404 27 (by decide)).trans z386
                      have z407 := (V404 32 (by decide)).trans z387
                      have z408 := (V404 49 (by decide)).trans z388
                      have z409 := (A403 54 (by decide) ((rv M0 o0 53).toNat)).trans z390
                      have z410 := (A403 56 (by decide) ((rv M0 o0 53).toNat)).trans z391
                      have z411 : rv M398 o0 53 = (v31 + 1).toInt := tm_rv q400
                      have K412 : ∀ i : Nat, i < 880 → 0 ≤ ra M398 o0 8 i := (by have e9 := ((sA_f A403 (by decide)) : sA [8] _ _ _) 8 rfl; rw [e9]; exact K392)
                      have K413 : rX M398 o0 := K393.inc (n := (rv M0 o0 53).toNat) A403 V404 (by omega) (by have := R381.1 1 _ _ rfl; have := R381.1 27 _ _ rfl; have := R381.1 32 _ _ rfl; have := R381.1 49 _ _ rfl; have := R381.1 53 _ _ rfl; omega) (by have := R381.1 1 _ _ rfl; have := R381.1 27 _ _ rfl; have := R381.1 32 _ _ rfl; have := R381.1 49 _ _ rfl; have := R381.1 53 _ _ rfl; omega) (fun _ => by omega) (fun _ => by omega) (fun _ => by omega)
                      have K414 : ∀ i, ra M398 o0 58 i = if i = (rv M0 o0 53).toNat then rv M0 o0 1 + p_tr M0 o0 (rv M0 o0 1) 2 else ra M0 o0 58 i := (fun i => (congrFun (((sA_f A403 (by decide)) : sA [58] _ _ _) 58 rfl) i).trans (K394 i))
                      have K415 : ∀ i, ra M398 o0 59 i = if i = (rv M0 o0 53).toNat then 0 else ra M0 o0 59 i := (fun i => (congrFun (((sA_f A403 (by decide)) : sA [59] _ _ _) 59 rfl) i).trans (K395 i))
                      have K416 : sA [6, 7, 8, 28] M0 M398 o0 := K396.trans (sA_f A403 (by decide))
                      clear z385 z386 z387 z388 z390 z391
                      refine mv_aload_n d_TrustDeskModel_propose_194 rfl rfl ?_
                      refine tr_getK (k := 53) q400 d_TrustDeskModel_propose_195 f_TrustDeskModel_501_13 ?_
                      refine mv_iconst (v := 1) d_TrustDeskModel_propose_198 (by decide) ?_
                      refine mv_isubv (v := v31) d_TrustDeskModel_propose_199 (Int32.add_sub_cancel _ _) ?_
                      exact mv_iret d_TrustDeskModel_propose_200 rfl (by first | rfl | decide) ⟨_, I399, _, rfl, R402, K413, (by have := R402.1 1 _ _ rfl; have := R402.1 27 _ _ rfl; have := R402.1 32 _ _ rfl; have := R402.1 49 _ _ rfl; have := R402.1 53 _ _ rfl; omega), (fun h9 => absurd h9 (by omega)), (fun _ => ⟨K414, K415⟩)⟩
              · refine mv_aload_n d_TrustDeskModel_propose_65 rfl rfl ?_
                refine mv_iload_n d_TrustDeskModel_propose_66 rfl rfl ?_
                obtain ⟨_, b417, -⟩ := I7.1 _ _ h_o0
                refine mv_callV (kc1 := 0) (ks1 := 0) (kc' := 0) (ks' := 0) (As := [.int x3]) (st9 := [.int x3, .ref o0]) d_TrustDeskModel_propose_67 lV_TrustDeskModel_418 b417 rfl (mj_enter (by decide) (Nat.le_of_ble_eq_true rfl) ?_) rfl (Nat.le_of_ble_eq_true rfl) (Nat.le_of_ble_eq_true rfl) (Nat.le_of_ble_eq_true rfl) (hst := rfl) (fun _ _ _ h => h)
                refine mv_iload_n d_TrustDeskModel_isFund_0 rfl rfl ?_
                have := mz_hi x3
                refine mv_if_ltZ (tgt := 16) (a := x3.toInt) d_TrustDeskModel_isFund_1 (by decide) rfl (fun b418 => ?_) (fun b418 => ?_)
                · refine mv_iconst (v := 0) d_TrustDeskModel_isFund_16 (by decide) ?_
                  refine mv_iret d_TrustDeskModel_isFund_17 rfl (by decide) ?_
                  refine mv_goto (tgt := 99) d_TrustDeskModel_propose_70 (by decide) ?_
                  refine mv_istore (lv' := [(4, .int 0), (0, .ref o0), (1, .int x1), (2, .int x2), (3, .int x3)]) d_TrustDeskModel_propose_99 (by decide) rfl ?_
                  refine mv_iload d_TrustDeskModel_propose_101 rfl ?_
                  refine mv_if_ne_f (tgt := 108) d_TrustDeskModel_propose_103 (by decide) (by decide) ?_
                  refine mv_iconst (v := (-1)) d_TrustDeskModel_propose_106 (by decide) ?_
                  exact mv_iret d_TrustDeskModel_propose_107 rfl (by first | rfl | decide) ⟨_, I7, _, rfl, R10, K19, (by have e9 : ((-1) : Int32).toInt = (-1) := (by decide); have := R10.1 1 _ _ rfl; have := R10.1 27 _ _ rfl; have := R10.1 32 _ _ rfl; have := R10.1 49 _ _ rfl; have := R10.1 53 _ _ rfl; omega), (fun _ => ⟨K20, K21⟩), (fun h9 => absurd (by decide) h9)⟩
                · refine mv_iload_n d_TrustDeskModel_isFund_4 rfl rfl ?_
                  refine mv_aload_n d_TrustDeskModel_isFund_5 rfl rfl ?_
                  refine tr_getK (k := 32) q25 d_TrustDeskModel_isFund_6 f_TrustDeskModel_415_13 ?_
                  have := mz_hi x3
                  have := mz_hi v26
                  refine mv_icmp_geZ (tgt := 16) (a := x3.toInt) (b := v26.toInt) d_TrustDeskModel_isFund_9 (by decide) rfl rfl (fun b419 => ?_) (fun b419 => ?_)
                  · refine mv_iconst (v := 0) d_TrustDeskModel_isFund_16 (by decide) ?_
                    refine mv_iret d_TrustDeskModel_isFund_17 rfl (by decide) ?_
                    refine mv_goto (tgt := 99) d_TrustDeskModel_propose_70 (by decide) ?_
                    refine mv_istore (lv' := [(4, .int 0), (0, .ref o0), (1, .int x1), (2, .int x2), (3, .int x3)]) d_TrustDeskModel_propose_99 (by decide) rfl ?_
                    refine mv_iload d_TrustDeskModel_propose_101 rfl ?_
                    refine mv_if_ne_f (tgt := 108) d_TrustDeskModel_propose_103 (by decide) (by decide) ?_
                    refine mv_iconst (v := (-1)) d_TrustDeskModel_propose_106 (by decide) ?_
                    exact mv_iret d_TrustDeskModel_propose_107 rfl (by first | rfl | decide) ⟨_, I7, _, rfl, R10, K19, (by have e9 : ((-1) : Int32).toInt = (-1) := (by decide); have := R10.1 1 _ _ rfl; have := R10.1 27 _ _ rfl; have := R10.1 32 _ _ rfl; have := R10.1 49 _ _ rfl; have := R10.1 53 _ _ rfl; omega), (fun _ => ⟨K20, K21⟩), (fun h9 => absurd (by decide) h9)⟩
                  · refine mv_iconst (v := 1) d_TrustDeskModel_isFund_12 (by decide) ?_
                    refine mv_goto (tgt := 17) d_TrustDeskModel_isFund_13 (by decide) ?_
                    refine mv_iret d_TrustDeskModel_isFund_17 rfl (by decide) ?_
                    refine mv_goto (tgt := 99) d_TrustDeskModel_propose_70 (by decide) ?_
                    refine mv_istore (lv' := [(4, .int 1), (0, .ref o0), (1, .int x1), (2, .int x2), (3, .int x3)]) d_TrustDeskModel_propose_99 (by decide) rfl ?_
                    refine mv_iload d_TrustDeskModel_propose_101 rfl ?_
                    refine mv_if_ne_t (tgt := 108) d_TrustDeskModel_propose_103 (by decide) (by decide) ?_
                    refine mv_aload_n d_TrustDeskModel_propose_108 rfl rfl ?_
                    obtain ⟨a421, q420, t_a421⟩ := tm_atR I7 h_o0 (k := 54) rfl
                    refine tr_getK q420 d_TrustDeskModel_propose_109 f_TrustDeskModel_122_13 ?_
                    refine mv_aload_n d_TrustDeskModel_propose_112 rfl rfl ?_
                    refine tr_getK (k := 53) q30 d_TrustDeskModel_propose_113 f_TrustDeskModel_501_13 ?_
                    refine mv_iload_n d_TrustDeskModel_propose_116 rfl rfl ?_
                    refine tr_iastR (k := 54) I7 R10 (I7.up h_o0) q420 t_a421 (by decide) (by decide) (fun lo hi h => by cases h; have := R10.1 1 _ _ rfl; have := R10.1 27 _ _ rfl; have := R10.1 32 _ _ rfl; have := R10.1 49 _ _ rfl; have := R10.1 53 _ _ rfl; exact ⟨by show (0 : Int) ≤ x1.toInt; omega, by show x1.toInt ≤ (3 : Int); omega⟩) (Or.inl (by decide)) d_TrustDeskModel_propose_117 (vp_in_iff.mpr (by have := R10.1 1 _ _ rfl; have := R10.1 27 _ _ rfl; have := R10.1 32 _ _ rfl; have := R10.1 49 _ _ rfl; have := R10.1 53 _ _ rfl; omega)) (fun M422 I423 K424 R425 E426 A427 V428 => ?_)
                    have z429 := (V428 1).trans z13
                    have z430 := (V428 27).trans z14
                    have z431 := (V428 32).trans z15
                    have z432 := (V428 49).trans z16
                    have z433 := (V428 53).trans z17
                    have h434 : (rv M0 o0 53).toNat = v31.toNatClampNeg := by have := mz_nat9 (i := v31) (by have := R10.1 1 _ _ rfl; have := R10.1 27 _ _ rfl; have := R10.1 32 _ _ rfl; have := R10.1 49 _ _ rfl; have := R10.1 53 _ _ rfl; omega); have := R10.1 1 _ _ rfl; have := R10.1 27 _ _ rfl; have := R10.1 32 _ _ rfl; have := R10.1 49 _ _ rfl; have := R10.1 53 _ _ rfl; omega
                    have z435 : ra M422 o0 54 ((rv M0 o0 53).toNat) = x1.toInt := (E426 _).trans (if_pos h434)
                    have K436 : ∀ i : Nat, i < 880 → 0 ≤ ra M422 o0 8 i := (by have e9 := ((sA_a A427 (by decide +kernel)) : sA [8] _ _ _) 8 rfl; rw [e9]; exact K18)
                    have K437 : rX M422 o0 := K19.out A427 E426 V428 (Or.inl rfl) (by have := mz_nat9 (i := v31) (by have := R10.1 1 _ _ rfl; have := R10.1 27 _ _ rfl; have := R10.1 32 _ _ rfl; have := R10.1 49 _ _ rfl; have := R10.1 53 _ _ rfl; omega); have := R10.1 1 _ _ rfl; have := R10.1 27 _ _ rfl; have := R10.1 32 _ _ rfl; have := R10.1 49 _ _ rfl; have := R10.1 53 _ _ rfl; omega)
                    have K438 : ∀ i, ra M422 o0 58 i = ra M0 o0 58 i := (fun i => (congrFun (((sA_a A427 (by decide +kernel)) : sA [58] _ _ _) 58 rfl) i).trans (K20 i))
                    have K439 : ∀ i, ra M422 o0 59 i = ra M0 o0 59 i := (fun i => (congrFun (((sA_a A427 (by decide +kernel)) : sA [59] _ _ _) 59 rfl) i).trans (K21 i))
                    have K440 : sA [6, 7, 8, 28] M0 M422 o0 := K22.trans (sA_a A427 (by decide +kernel))
                    clear z13 z14 z15 z16 z17
                    refine mv_aload_n d_TrustDeskModel_propose_118 rfl rfl ?_
                    obtain ⟨a442, q441, t_a442⟩ := tm_atR I423 h_o0 (k := 55) rfl
                    refine tr_getK q441 d_TrustDeskModel_propose_119 f_TrustDeskModel_125_13 ?_
                    refine mv_aload_n d_TrustDeskModel_propose_122 rfl rfl ?_
                    refine tr_getK (k := 53) (K424 _ 13 53 _ q30) d_TrustDeskModel_propose_123 f_TrustDeskModel_501_13 ?_
                    refine mv_iload_n d_TrustDeskModel_propose_126 rfl rfl ?_
                    refine tr_iastR (k := 55) I423 R425 (I423.up h_o0) q441 t_a442 (by decide) (by decide) (fun lo hi h => by cases h; have := R425.1 1 _ _ rfl; have := R425.1 27 _ _ rfl; have := R425.1 32 _ _ rfl; have := R425.1 49 _ _ rfl; have := R425.1 53 _ _ rfl; exact ⟨by show (0 : Int) ≤ x2.toInt; omega, by show x2.toInt ≤ (11 : Int); omega⟩) (Or.inl (by decide)) d_TrustDeskModel_propose_127 (vp_in_iff.mpr (by have := R425.1 1 _ _ rfl; have := R425.1 27 _ _ rfl; have := R425.1 32 _ _ rfl; have := R425.1 49 _ _ rfl; have := R425.1 53 _ _ rfl; omega)) (fun M443 I444 K445 R446 E447 A448 V449 => ?_)
                    have z450 := (V449 1).trans z429
                    have z451 := (V449 27).trans z430
                    have z452 := (V449 32).trans z431
                    have z453 := (V449 49).trans z432
                    have z454 := (V449 53).trans z433
                    have z455 := (A448 54 (by decide) rfl ((rv M0 o0 53).toNat)).trans z435
                    have K456 : ∀ i : Nat, i < 880 → 0 ≤ ra M443 o0 8 i := (by have e9 := ((sA_a A448 (by decide +kernel)) : sA [8] _ _ _) 8 rfl; rw [e9]; exact K436)
                    have K457 : rX M443 o0 := K437.same (sA_a A448 (by decide +kernel)) (sF_a V449)
                    have K458 : ∀ i, ra M443 o0 58 i = ra M0 o0 58 i := (fun i => (congrFun (((sA_a A448 (by decide +kernel)) : sA [58] _ _ _) 58 rfl) i).trans (K438 i))
                    have K459 : ∀ i, ra M443 o0 59 i = ra M0 o0 59 i := (fun i => (congrFun (((sA_a A448 (by decide +kernel)) : sA [59] _ _ _) 59 rfl) i).trans (K439 i))
                    have K460 : sA [6, 7, 8, 28] M0 M443 o0 := K440.trans (sA_a A448 (by decide +kernel))
                    clear z429 z430 z431 z432 z433 z435
                    refine mv_aload_n d_TrustDeskModel_propose_128 rfl rfl ?_
                    obtain ⟨a462, q461, t_a462⟩ := tm_atR I444 h_o0 (k := 56) rfl
                    refine tr_getK q461 d_TrustDeskModel_propose_129 f_TrustDeskModel_128_13 ?_
                    refine mv_aload_n d_TrustDeskModel_propose_132 rfl rfl ?_
                    refine tr_getK (k := 53) (K445 _ 13 53 _ (K424 _ 13 53 _ q30)) d_TrustDeskModel_propose_133 f_TrustDeskModel_501_13 ?_
                    refine mv_iload_n d_TrustDeskModel_propose_136 rfl rfl ?_
                    refine tr_iastR (k := 56) I444 R446 (I444.up h_o0) q461 t_a462 (by decide) (by decide) (fun lo hi h => by cases h) (Or.inl (by decide)) d_TrustDeskModel_propose_137 (vp_in_iff.mpr (by have := R446.1 1 _ _ rfl; have := R446.1 27 _ _ rfl; have := R446.1 32 _ _ rfl; have := R446.1 49 _ _ rfl; have := R446.1 53 _ _ rfl; omega)) (fun M463 I464 K465 R466 E467 A468 V469 => ?_)
                    have z470 := (V469 1).trans z450
                    have z471 := (V469 27).trans z451
                    have z472 := (V469 32).trans z452
                    have z473 := (V469 49).trans z453
                    have z474 := (V469 53).trans z454
                    have z475 := (A468 54 (by decide) rfl ((rv M0 o0 53).toNat)).trans z455
                    have h476 : (rv M0 o0 53).toNat = v31.toNatClampNeg := by have := mz_nat9 (i := v31) (by have := R446.1 1 _ _ rfl; have := R446.1 27 _ _ rfl; have := R446.1 32 _ _ rfl; have := R446.1 49 _ _ rfl; have := R446.1 53 _ _ rfl; omega); have := R446.1 1 _ _ rfl; have := R446.1 27 _ _ rfl; have := R446.1 32 _ _ rfl; have := R446.1 49 _ _ rfl; have := R446.1 53 _ _ rfl; omega
                    have z477 : ra M463 o0 56 ((rv M0 o0 53).toNat) = x3.toInt := (E467 _).trans (if_pos h476)
                    have K478 : ∀ i : Nat, i < 880 → 0 ≤ ra M463 o0 8 i := (by have e9 := ((sA_a A468 (by decide +kernel)) : sA [8] _ _ _) 8 rfl; rw [e9]; exact K456)
                    have K479 : rX M463 o0 := K457.out A468 E467 V469 (Or.inr rfl) (by have := mz_nat9 (i := v31) (by have := R446.1 1 _ _ rfl; have := R446.1 27 _ _ rfl; have := R446.1 32 _ _ rfl; have := R446.1 49 _ _ rfl; have := R446.1 53 _ _ rfl; omega); have := R446.1 1 _ _ rfl; have := R446.1 27 _ _ rfl; have := R446.1 32 _ _ rfl; have := R446.1 49 _ _ rfl; have := R446.1 53 _ _ rfl; omega)
                    have K480 : ∀ i, ra M463 o0 58 i = ra M0 o0 58 i := (fun i => (congrFun (((sA_a A468 (by decide +kernel)) : sA [58] _ _ _) 58 rfl) i).trans (K458 i))
                    have K481 : ∀ i, ra M463 o0 59 i = ra M0 o0 59 i := (fun i => (congrFun (((sA_a A468 (by decide +kernel)) : sA [59] _ _ _) 59 rfl) i).trans (K459 i))
                    have K482 : sA [6, 7, 8, 28] M0 M463 o0 := K460.trans (sA_a A468 (by decide +kernel))
                    clear z450 z451 z452 z453 z454 z455
                    refine mv_aload_n d_TrustDeskModel_propose_138 rfl rfl ?_
                    obtain ⟨a484, q483, t_a484⟩ := tm_atR I464 h_o0 (k := 57) rfl
                    refine tr_getK q483 d_TrustDeskModel_propose_139 f_TrustDeskModel_131_13 ?_
                    refine mv_aload_n d_TrustDeskModel_propose_142 rfl rfl ?_
                    refine tr_getK (k := 53) (K465 _ 13 53 _ (K445 _ 13 53 _ (K424 _ 13 53 _ q30))) d_TrustDeskModel_propose_143 f_TrustDeskModel_501_13 ?_
                    refine mv_aload_n d_TrustDeskModel_propose_146 rfl rfl ?_
                    obtain ⟨v486, q485⟩ := tm_atI I464 h_o0 (k := 1) rfl
                    refine tr_getK q485 d_TrustDeskModel_propose_147 f_TrustDeskModel_164_13 ?_
                    have := R466.f (k := 1) q485 rfl
                    have := (tm_rv q485).symm.trans z470
                    have := tm_rv q485
                    refine tr_iastR (k := 57) I464 R466 (I464.up h_o0) q483 t_a484 (by decide) (by decide) (fun lo hi h => by cases h) (Or.inl (by decide)) d_TrustDeskModel_propose_150 (vp_in_iff.mpr (by have := R466.1 1 _ _ rfl; have := R466.1 27 _ _ rfl; have := R466.1 32 _ _ rfl; have := R466.1 49 _ _ rfl; have := R466.1 53 _ _ rfl; omega)) (fun M487 I488 K489 R490 E491 A492 V493 => ?_)
                    have z494 := (V493 1).trans z470
                    have z495 := (V493 27).trans z471
                    have z496 := (V493 32).trans z472
                    have z497 := (V493 49).trans z473
                    have z498 := (V493 53).trans z474
                    have z499 := (A492 54 (by decide) rfl ((rv M0 o0 53).toNat)).trans z475
                    have z500 := (A492 56 (by decide) rfl ((rv M0 o0 53).toNat)).trans z477
                    have K501 : ∀ i : Nat, i < 880 → 0 ≤ ra M487 o0 8 i := (by have e9 := ((sA_a A492 (by decide +kernel)) : sA [8] _ _ _) 8 rfl; rw [e9]; exact K478)
                    have K502 : rX M487 o0 := K479.same (sA_a A492 (by decide +kernel)) (sF_a V493)
                    have K503 : ∀ i, ra M487 o0 58 i = ra M0 o0 58 i := (fun i => (congrFun (((sA_a A492 (by decide +kernel)) : sA [58] _ _ _) 58 rfl) i).trans (K480 i))
                    have K504 : ∀ i, ra M487 o0 59 i = ra M0 o0 59 i := (fun i => (congrFun (((sA_a A492 (by decide +kernel)) : sA [59] _ _ _) 59 rfl) i).trans (K481 i))
                    have K505 : sA [6, 7, 8, 28] M0 M487 o0 := K482.trans (sA_a A492 (by decide +kernel))
                    clear z470 z471 z472 z473 z474 z475 z477
                    refine mv_aload_n d_TrustDeskModel_propose_151 rfl rfl ?_
                    obtain ⟨a507, q506, t_a507⟩ := tm_atR I488 h_o0 (k := 58) rfl
                    refine tr_getK q506 d_TrustDeskModel_propose_152 f_TrustDeskModel_134_13 ?_
                    refine mv_aload_n d_TrustDeskModel_propose_155 rfl rfl ?_
                    refine tr_getK (k := 53) (K489 _ 13 53 _ (K465 _ 13 53 _ (K445 _ 13 53 _ (K424 _ 13 53 _ q30)))) d_TrustDeskModel_propose_156 f_TrustDeskModel_501_13 ?_
                    refine mv_aload_n d_TrustDeskModel_propose_159 rfl rfl ?_
                    refine tr_getK (k := 1) (K489 _ 13 1 _ q485) d_TrustDeskModel_propose_160 f_TrustDeskModel_164_13 ?_
                    refine mv_aload_n d_TrustDeskModel_propose_163 rfl rfl ?_
                    refine mv_aload_n d_TrustDeskModel_propose_164 rfl rfl ?_
                    refine tr_getK (k := 1) (K489 _ 13 1 _ q485) d_TrustDeskModel_propose_165 f_TrustDeskModel_164_13 ?_
                    refine mv_iconst (v := 2) d_TrustDeskModel_propose_168 (by decide) ?_
                    obtain ⟨_, b514, -⟩ := I488.1 _ _ h_o0
                    have : (2 : Int32).toInt = 2 := by decide
                    refine mv_callV (kc' := 0) (ks' := 0) (As := [.int v486, .int 2]) (st9 := [.int 2, .int v486, .ref o0, .int v486, .int v31, .ref a507]) d_TrustDeskModel_propose_169 lV_TrustDeskModel_396 b514 rfl (tc_TrustDeskModel_toldOn_a (d := d) (x9 := x9) (o0 := o0) (x1 := v486) (x2 := 2) h_o0 R490 K501 (by decide) I488.start) rfl (Nat.le_of_ble_eq_true rfl) (Nat.le_of_ble_eq_true rfl) (Nat.le_of_ble_eq_true rfl) (hst := rfl) (fun b508r M509 n510 b508 => ?_)
                    obtain ⟨T511, J512, v515, rfl, R516, f517, f518⟩ := b508
                    have I513 := I488.call J512 (tm_sub (by decide)) (Or.inl rfl)
                    have t519 := J512.up h_o0
                    have t520 := J512.up t_a507
                    have z521 := (rv_c I488 J512 (I488.up h_o0) (k := 1) rfl).trans z494
                    have z522 := (rv_c I488 J512 (I488.up h_o0) (k := 27) rfl).trans z495
                    have z523 := (rv_c I488 J512 (I488.up h_o0) (k := 32) rfl).trans z496
                    have z524 := (rv_c I488 J512 (I488.up h_o0) (k := 49) rfl).trans z497
                    have z525 := (rv_c I488 J512 (I488.up h_o0) (k := 53) rfl).trans z498
                    have z526 := (ra_call I488 J512 (I488.up h_o0) (k := 54) rfl rfl rfl ((rv M0 o0 53).toNat)).trans z499
                    have z527 := (ra_call I488 J512 (I488.up h_o0) (k := 56) rfl rfl rfl ((rv M0 o0 53).toNat)).trans z500
                    have K528 : ∀ i : Nat, i < 880 → 0 ≤ ra M509 o0 8 i := (by have e9 := ((sA_c I488 J512 (I488.up h_o0) (by decide +kernel)) : sA [8] _ _ _) 8 rfl; rw [e9]; exact K501)
                    have K529 : rX M509 o0 := K502.same (sA_c I488 J512 (I488.up h_o0) (by decide +kernel)) (sF_c I488 J512 (I488.up h_o0) (by decide +kernel))
                    have K530 : ∀ i, ra M509 o0 58 i = ra M0 o0 58 i := (fun i => (congrFun (((sA_c I488 J512 (I488.up h_o0) (by decide +kernel)) : sA [58] _ _ _) 58 rfl) i).trans (K503 i))
                    have K531 : ∀ i, ra M509 o0 59 i = ra M0 o0 59 i := (fun i => (congrFun (((sA_c I488 J512 (I488.up h_o0) (by decide +kernel)) : sA [59] _ _ _) 59 rfl) i).trans (K504 i))
                    have K532 : sA [6, 7, 8, 28] M0 M509 o0 := K505.trans (sA_c I488 J512 (I488.up h_o0) (by decide +kernel))
                    have h533 := f518.trans (p_tr_same K505 z495)
                    clear z494 z495 z496 z497 z498 z499 z500
                    have q534 := J512.keep h_o0 (by decide) (K489 _ 13 0 _ (K465 _ 13 0 _ (K445 _ 13 0 _ (K424 _ 13 0 _ q8))))
                    have q535 := J512.keep h_o0 (by decide) (K489 _ 13 32 _ (K465 _ 13 32 _ (K445 _ 13 32 _ (K424 _ 13 32 _ q25))))
                    have q536 := J512.keep h_o0 (by decide) (K489 _ 13 53 _ (K465 _ 13 53 _ (K445 _ 13 53 _ (K424 _ 13 53 _ q30))))
                    have q537 := J512.keep h_o0 (by decide) (K489 _ 13 54 _ (K465 _ 13 54 _ (K445 _ 13 54 _ (K424 _ 13 54 _ q420))))
                    have t538 := J512.up t_a421
                    have q539 := J512.keep h_o0 (by decide) (K489 _ 13 55 _ (K465 _ 13 55 _ (K445 _ 13 55 _ q441)))
                    have t540 := J512.up t_a442
                    have q541 := J512.keep h_o0 (by decide) (K489 _ 13 56 _ (K465 _ 13 56 _ q461))
                    have t542 := J512.up t_a462
                    have q543 := J512.keep h_o0 (by decide) (K489 _ 13 57 _ q483)
                    have t544 := J512.up t_a484
                    have q545 := J512.keep h_o0 (by decide) (K489 _ 13 1 _ q485)
                    have q546 := J512.keep h_o0 (by decide) q506
                    refine mv_iadd d_TrustDeskModel_propose_172 ?_
                    refine tr_iastR (k := 58) I513 R516 (I513.up h_o0) q546 t520 (by decide) (by decide) (fun lo hi h => by cases h) (Or.inl (by decide)) d_TrustDeskModel_propose_173 (vp_in_iff.mpr (by have := R516.1 1 _ _ rfl; have := R516.1 27 _ _ rfl; have := R516.1 32 _ _ rfl; have := R516.1 49 _ _ rfl; have := R516.1 53 _ _ rfl; omega)) (fun M547 I548 K549 R550 E551 A552 V553 => ?_)
                    have z554 := (V553 1).trans z521
                    have z555 := (V553 27).trans z522
                    have z556 := (V553 32).trans z523
                    have z557 := (V553 49).trans z524
                    have z558 := (V553 53).trans z525
                    have z559 := (A552 54 (by decide) rfl ((rv M0 o0 53).toNat)).trans z526
                    have z560 := (A552 56 (by decide) rfl ((rv M0 o0 53).toNat)).trans z527
                    have K561 : ∀ i : Nat, i < 880 → 0 ≤ ra M547 o0 8 i := (by have e9 := ((sA_a A552 (by decide +kernel)) : sA [8] _ _ _) 8 rfl; rw [e9]; exact K528)
                    have K562 : rX M547 o0 := K529.same (sA_a A552 (by decide +kernel)) (sF_a V553)
                    have b563 : (v486 + v515 : Int32).toInt = (v486.toInt + v515.toInt) := mz_add2 rfl rfl (by have := R516.1 1 _ _ rfl; have := R516.1 27 _ _ rfl; have := R516.1 32 _ _ rfl; have := R516.1 49 _ _ rfl; have := R516.1 53 _ _ rfl; omega) (by have := R516.1 1 _ _ rfl; have := R516.1 27 _ _ rfl; have := R516.1 32 _ _ rfl; have := R516.1 49 _ _ rfl; have := R516.1 53 _ _ rfl; omega)
                    have h564 : (v486 + v515).toInt = rv M0 o0 1 + p_tr M0 o0 (rv M0 o0 1) 2 := by have e8 := h533; rw [show ((2 : Int32).toInt).toNat = 2 from by decide, show (v486 : Int32).toInt = rv M0 o0 1 from by omega] at e8; omega
                    have K565 : ∀ i, ra M547 o0 58 i = if i = (rv M0 o0 53).toNat then rv M0 o0 1 + p_tr M0 o0 (rv M0 o0 1) 2 else ra M0 o0 58 i := (fun i => (E551 i).trans (by rw [show v31.toNatClampNeg = (rv M0 o0 53).toNat from by have := mz_nat9 (i := v31) (by have := R516.1 1 _ _ rfl; have := R516.1 27 _ _ rfl; have := R516.1 32 _ _ rfl; have := R516.1 49 _ _ rfl; have := R516.1 53 _ _ rfl; omega); have := R516.1 1 _ _ rfl; have := R516.1 27 _ _ rfl; have := R516.1 32 _ _ rfl; have := R516.1 49 _ _ rfl; have := R516.1 53 _ _ rfl; omega, h564, K530 i]))
                    have K566 : ∀ i, ra M547 o0 59 i = ra M0 o0 59 i := (fun i => (congrFun (((sA_a A552 (by decide +kernel)) : sA [59] _ _ _) 59 rfl) i).trans (K531 i))
                    have K567 : sA [6, 7, 8, 28] M0 M547 o0 := K532.trans (sA_a A552 (by decide +kernel))
                    clear z521 z522 z523 z524 z525 z526 z527
                    refine mv_aload_n d_TrustDeskModel_propose_174 rfl rfl ?_
                    obtain ⟨a569, q568, t_a569⟩ := tm_atR I548 t519 (k := 59) rfl
                    refine tr_getK q568 d_TrustDeskModel_propose_175 f_TrustDeskModel_137_13 ?_
                    refine mv_aload_n d_TrustDeskModel_propose_178 rfl rfl ?_
                    refine tr_getK (k := 53) (K549 _ 13 53 _ q536) d_TrustDeskModel_propose_179 f_TrustDeskModel_501_13 ?_
                    refine mv_iconst (v := 0) d_TrustDeskModel_propose_182 (by decide) ?_
                    refine tr_iastR (k := 59) I548 R550 (I548.up h_o0) q568 t_a569 (by decide) (by decide) (fun lo hi h => by cases h) (Or.inl (by decide)) d_TrustDeskModel_propose_183 (vp_in_iff.mpr (by have := R550.1 1 _ _ rfl; have := R550.1 27 _ _ rfl; have := R550.1 32 _ _ rfl; have := R550.1 49 _ _ rfl; have := R550.1 53 _ _ rfl; omega)) (fun M570 I571 K572 R573 E574 A575 V576 => ?_)
                    have z577 := (V576 1).trans z554
                    have z578 := (V576 27).trans z555
                    have z579 := (V576 32).trans z556
                    have z580 := (V576 49).trans z557
                    have z581 := (V576 53).trans z558
                    have z582 := (A575 54 (by decide) rfl ((rv M0 o0 53).toNat)).trans z559
                    have z583 := (A575 56 (by decide) rfl ((rv M0 o0 53).toNat)).trans z560
                    have K584 : ∀ i : Nat, i < 880 → 0 ≤ ra M570 o0 8 i := (by have e9 := ((sA_a A575 (by decide +kernel)) : sA [8] _ _ _) 8 rfl; rw [e9]; exact K561)
                    have K585 : rX M570 o0 := K562.same (sA_a A575 (by decide +kernel)) (sF_a V576)
                    have K586 : ∀ i, ra M570 o0 58 i = if i = (rv M0 o0 53).toNat then rv M0 o0 1 + p_tr M0 o0 (rv M0 o0 1) 2 else ra M0 o0 58 i := (fun i => (congrFun (((sA_a A575 (by decide +kernel)) : sA [58] _ _ _) 58 rfl) i).trans (K565 i))
                    have K587 : ∀ i, ra M570 o0 59 i = if i = (rv M0 o0 53).toNat then 0 else ra M0 o0 59 i := (fun i => (E574 i).trans (by rw [show v31.toNatClampNeg = (rv M0 o0 53).toNat from by have := mz_nat9 (i := v31) (by have := R550.1 1 _ _ rfl; have := R550.1 27 _ _ rfl; have := R550.1 32 _ _ rfl; have := R550.1 49 _ _ rfl; have := R550.1 53 _ _ rfl; omega); have := R550.1 1 _ _ rfl; have := R550.1 27 _ _ rfl; have := R550.1 32 _ _ rfl; have := R550.1 49 _ _ rfl; have := R550.1 53 _ _ rfl; omega, show (0 : Int32).toInt = 0 from by decide, K566 i]))
                    have K588 : sA [6, 7, 8, 28] M0 M570 o0 := K567.trans (sA_a A575 (by decide +kernel))
                    clear z554 z555 z556 z557 z558 z559 z560
                    refine mv_aload_n d_TrustDeskModel_propose_184 rfl rfl ?_
                    refine mv_dup d_TrustDeskModel_propose_185 rfl ?_
                    refine tr_getK (k := 53) (K572 _ 13 53 _ (K549 _ 13 53 _ q536)) d_TrustDeskModel_propose_186 f_TrustDeskModel_501_13 ?_
                    refine mv_iconst (v := 1) d_TrustDeskModel_propose_189 (by decide) ?_
                    refine mv_iadd d_TrustDeskModel_propose_190 ?_
                    have b589 : (v31 + 1 : Int32).toInt = (v31.toInt + 1) := mz_add2 rfl (by decide) (by have := R573.1 1 _ _ rfl; have := R573.1 27 _ _ rfl; have := R573.1 32 _ _ rfl; have := R573.1 49 _ _ rfl; have := R573.1 53 _ _ rfl; omega) (by have := R573.1 1 _ _ rfl; have := R573.1 27 _ _ rfl; have := R573.1 32 _ _ rfl; have := R573.1 49 _ _ rfl; have := R573.1 53 _ _ rfl; omega)
                    refine tr_putR (k := 53) I571 R573 t519 rfl ⟨_, rfl⟩ (fun _ h => by cases h) rfl (fun lo hi h => by cases h; have := R573.1 1 _ _ rfl; have := R573.1 27 _ _ rfl; have := R573.1 32 _ _ rfl; have := R573.1 49 _ _ rfl; have := R573.1 53 _ _ rfl; exact ⟨by show (0 : Int) ≤ (v31 + 1).toInt; omega, by show (v31 + 1).toInt ≤ (40 : Int); omega⟩) (Or.inl (by decide)) d_TrustDeskModel_propose_191 p_TrustDeskModel_501_13 rfl rfl (fun M590 I591 q592 K593 R594 A595 V596 => ?_)
                    have z597 := (V596 1 (by decide)).trans z577
                    have z598 := (V596 27 (by decide)).trans z578
                    have z599 := (V596 32 (by decide)).trans z579
                    have z600 := (V596 49 (by decide)).trans z580
                    have z601 := (A595 54 (by decide) ((rv M0 o0 53).toNat)).trans z582
                    have z602 := (A595 56 (by decide) ((rv M0 o0 53).toNat)).trans z583
                    have z603 : rv M590 o0 53 = (v31 + 1).toInt := tm_rv q592
                    have K604 : ∀ i : Nat, i < 880 → 0 ≤ ra M590 o0 8 i := (by have e9 := ((sA_f A595 (by decide)) : sA [8] _ _ _) 8 rfl; rw [e9]; exact K584)
                    have K605 : rX M590 o0 := K585.inc (n := (rv M0 o0 53).toNat) A595 V596 (by omega) (by have := R573.1 1 _ _ rfl; have := R573.1 27 _ _ rfl; have := R573.1 32 _ _ rfl; have := R573.1 49 _ _ rfl; have := R573.1 53 _ _ rfl; omega) (by have := R573.1 1 _ _ rfl; have := R573.1 27 _ _ rfl; have := R573.1 32 _ _ rfl; have := R573.1 49 _ _ rfl; have := R573.1 53 _ _ rfl; omega) (fun _ => by omega) (fun _ => by omega) (fun _ => by omega)
                    have K606 : ∀ i, ra M590 o0 58 i = if i = (rv M0 o0 53).toNat then rv M0 o0 1 + p_tr M0 o0 (rv M0 o0 1) 2 else ra M0 o0 58 i := (fun i => (congrFun (((sA_f A595 (by decide)) : sA [58] _ _ _) 58 rfl) i).trans (K586 i))
                    have K607 : ∀ i, ra M590 o0 59 i = if i = (rv M0 o0 53).toNat then 0 else ra M0 o0 59 i := (fun i => (congrFun (((sA_f A595 (by decide)) : sA [59] _ _ _) 59 rfl) i).trans (K587 i))
                    have K608 : sA [6, 7, 8, 28] M0 M590 o0 := K588.trans (sA_f A595 (by decide))
                    clear z577 z578 z579 z580 z582 z583
                    refine mv_aload_n d_TrustDeskModel_propose_194 rfl rfl ?_
                    refine tr_getK (k := 53) q592 d_TrustDeskModel_propose_195 f_TrustDeskModel_501_13 ?_
                    refine mv_iconst (v := 1) d_TrustDeskModel_propose_198 (by decide) ?_
                    refine mv_isubv (v := v31) d_TrustDeskModel_propose_199 (Int32.add_sub_cancel _ _) ?_
                    exact mv_iret d_TrustDeskModel_propose_200 rfl (by first | rfl | decide) ⟨_, I591, _, rfl, R594, K605, (by have := R594.1 1 _ _ rfl; have := R594.1 27 _ _ rfl; have := R594.1 32 _ _ rfl; have := R594.1 49 _ _ rfl; have := R594.1 53 _ _ rfl; omega), (fun h9 => absurd h9 (by omega)), (fun _ => ⟨K606, K607⟩)⟩
            · refine mv_iload_n d_TrustDeskModel_propose_40 rfl rfl ?_
              have := mz_hi x3
              refine mv_if_ltZ (tgt := 56) (a := x3.toInt) d_TrustDeskModel_propose_41 (by decide) rfl (fun b609 => ?_) (fun b609 => ?_)
              · refine mv_iconst (v := 0) d_TrustDeskModel_propose_56 (by decide) ?_
                refine mv_goto (tgt := 99) d_TrustDeskModel_propose_57 (by decide) ?_
                refine mv_istore (lv' := [(4, .int 0), (0, .ref o0), (1, .int x1), (2, .int x2), (3, .int x3)]) d_TrustDeskModel_propose_99 (by decide) rfl ?_
                refine mv_iload d_TrustDeskModel_propose_101 rfl ?_
                refine mv_if_ne_f (tgt := 108) d_TrustDeskModel_propose_103 (by decide) (by decide) ?_
                refine mv_iconst (v := (-1)) d_TrustDeskModel_propose_106 (by decide) ?_
                exact mv_iret d_TrustDeskModel_propose_107 rfl (by first | rfl | decide) ⟨_, I7, _, rfl, R10, K19, (by have e9 : ((-1) : Int32).toInt = (-1) := (by decide); have := R10.1 1 _ _ rfl; have := R10.1 27 _ _ rfl; have := R10.1 32 _ _ rfl; have := R10.1 49 _ _ rfl; have := R10.1 53 _ _ rfl; omega), (fun _ => ⟨K20, K21⟩), (fun h9 => absurd (by decide) h9)⟩
              · refine mv_iload_n d_TrustDeskModel_propose_44 rfl rfl ?_
                refine mv_aload_n d_TrustDeskModel_propose_45 rfl rfl ?_
                obtain ⟨v611, q610⟩ := tm_atI I7 h_o0 (k := 49) rfl
                refine tr_getK q610 d_TrustDeskModel_propose_46 f_TrustDeskModel_435_13 ?_
                have := R10.f (k := 49) q610 rfl
                have := (tm_rv q610).symm.trans z16
                have := tm_rv q610
                have := mz_hi x3
                have := mz_hi v611
                refine mv_icmp_geZ (tgt := 56) (a := x3.toInt) (b := v611.toInt) d_TrustDeskModel_propose_49 (by decide) rfl rfl (fun b612 => ?_) (fun b612 => ?_)
                · refine mv_iconst (v := 0) d_TrustDeskModel_propose_56 (by decide) ?_
                  refine mv_goto (tgt := 99) d_TrustDeskModel_propose_57 (by decide) ?_
                  refine mv_istore (lv' := [(4, .int 0), (0, .ref o0), (1, .int x1), (2, .int x2), (3, .int x3)]) d_TrustDeskModel_propose_99 (by decide) rfl ?_
                  refine mv_iload d_TrustDeskModel_propose_101 rfl ?_
                  refine mv_if_ne_f (tgt := 108) d_TrustDeskModel_propose_103 (by decide) (by decide) ?_
                  refine mv_iconst (v := (-1)) d_TrustDeskModel_propose_106 (by decide) ?_
                  exact mv_iret d_TrustDeskModel_propose_107 rfl (by first | rfl | decide) ⟨_, I7, _, rfl, R10, K19, (by have e9 : ((-1) : Int32).toInt = (-1) := (by decide); have := R10.1 1 _ _ rfl; have := R10.1 27 _ _ rfl; have := R10.1 32 _ _ rfl; have := R10.1 49 _ _ rfl; have := R10.1 53 _ _ rfl; omega), (fun _ => ⟨K20, K21⟩), (fun h9 => absurd (by decide) h9)⟩
                · refine mv_iconst (v := 1) d_TrustDeskModel_propose_52 (by decide) ?_
                  refine mv_goto (tgt := 99) d_TrustDeskModel_propose_53 (by decide) ?_
                  refine mv_istore (lv' := [(4, .int 1), (0, .ref o0), (1, .int x1), (2, .int x2), (3, .int x3)]) d_TrustDeskModel_propose_99 (by decide) rfl ?_
                  refine mv_iload d_TrustDeskModel_propose_101 rfl ?_
                  refine mv_if_ne_t (tgt := 108) d_TrustDeskModel_propose_103 (by decide) (by decide) ?_
                  refine mv_aload_n d_TrustDeskModel_propose_108 rfl rfl ?_
                  obtain ⟨a614, q613, t_a614⟩ := tm_atR I7 h_o0 (k := 54) rfl
                  refine tr_getK q613 d_TrustDeskModel_propose_109 f_TrustDeskModel_122_13 ?_
                  refine mv_aload_n d_TrustDeskModel_propose_112 rfl rfl ?_
                  refine tr_getK (k := 53) q30 d_TrustDeskModel_propose_113 f_TrustDeskModel_501_13 ?_
                  refine mv_iload_n d_TrustDeskModel_propose_116 rfl rfl ?_
                  refine tr_iastR (k := 54) I7 R10 (I7.up h_o0) q613 t_a614 (by decide) (by decide) (fun lo hi h => by cases h; have := R10.1 1 _ _ rfl; have := R10.1 27 _ _ rfl; have := R10.1 32 _ _ rfl; have := R10.1 49 _ _ rfl; have := R10.1 53 _ _ rfl; exact ⟨by show (0 : Int) ≤ x1.toInt; omega, by show x1.toInt ≤ (3 : Int); omega⟩) (Or.inl (by decide)) d_TrustDeskModel_propose_117 (vp_in_iff.mpr (by have := R10.1 1 _ _ rfl; have := R10.1 27 _ _ rfl; have := R10.1 32 _ _ rfl; have := R10.1 49 _ _ rfl; have := R10.1 53 _ _ rfl; omega)) (fun M615 I616 K617 R618 E619 A620 V621 => ?_)
                  have z622 := (V621 1).trans z13
                  have z623 := (V621 27).trans z14
                  have z624 := (V621 32).trans z15
                  have z625 := (V621 49).trans z16
                  have z626 := (V621 53).trans z17
                  have h627 : (rv M0 o0 53).toNat = v31.toNatClampNeg := by have := mz_nat9 (i := v31) (by have := R10.1 1 _ _ rfl; have := R10.1 27 _ _ rfl; have := R10.1 32 _ _ rfl; have := R10.1 49 _ _ rfl; have := R10.1 53 _ _ rfl; omega); have := R10.1 1 _ _ rfl; have := R10.1 27 _ _ rfl; have := R10.1 32 _ _ rfl; have := R10.1 49 _ _ rfl; have := R10.1 53 _ _ rfl; omega
                  have z628 : ra M615 o0 54 ((rv M0 o0 53).toNat) = x1.toInt := (E619 _).trans (if_pos h627)
                  have K629 : ∀ i : Nat, i < 880 → 0 ≤ ra M615 o0 8 i := (by have e9 := ((sA_a A620 (by decide +kernel)) : sA [8] _ _ _) 8 rfl; rw [e9]; exact K18)
                  have K630 : rX M615 o0 := K19.out A620 E619 V621 (Or.inl rfl) (by have := mz_nat9 (i := v31) (by have := R10.1 1 _ _ rfl; have := R10.1 27 _ _ rfl; have := R10.1 32 _ _ rfl; have := R10.1 49 _ _ rfl; have := R10.1 53 _ _ rfl; omega); have := R10.1 1 _ _ rfl; have := R10.1 27 _ _ rfl; have := R10.1 32 _ _ rfl; have := R10.1 49 _ _ rfl; have := R10.1 53 _ _ rfl; omega)
                  have K631 : ∀ i, ra M615 o0 58 i = ra M0 o0 58 i := (fun i => (congrFun (((sA_a A620 (by decide +kernel)) : sA [58] _ _ _) 58 rfl) i).trans (K20 i))
                  have K632 : ∀ i, ra M615 o0 59 i = ra M0 o0 59 i := (fun i => (congrFun (((sA_a A620 (by decide +kernel)) : sA [59] _ _ _) 59 rfl) i).trans (K21 i))
                  have K633 : sA [6, 7, 8, 28] M0 M615 o0 := K22.trans (sA_a A620 (by decide +kernel))
                  clear z13 z14 z15 z16 z17
                  refine mv_aload_n d_TrustDeskModel_propose_118 rfl rfl ?_
                  obtain ⟨a635, q634, t_a635⟩ := tm_atR I616 h_o0 (k := 55) rfl
                  refine tr_getK q634 d_TrustDeskModel_propose_119 f_TrustDeskModel_125_13 ?_
                  refine mv_aload_n d_TrustDeskModel_propose_122 rfl rfl ?_
                  refine tr_getK (k := 53) (K617 _ 13 53 _ q30) d_TrustDeskModel_propose_123 f_TrustDeskModel_501_13 ?_
                  refine mv_iload_n d_TrustDeskModel_propose_126 rfl rfl ?_
                  refine tr_iastR (k := 55) I616 R618 (I616.up h_o0) q634 t_a635 (by decide) (by decide) (fun lo hi h => by cases h; have := R618.1 1 _ _ rfl; have := R618.1 27 _ _ rfl; have := R618.1 32 _ _ rfl; have := R618.1 49 _ _ rfl; have := R618.1 53 _ _ rfl; exact ⟨by show (0 : Int) ≤ x2.toInt; omega, by show x2.toInt ≤ (11 : Int); omega⟩) (Or.inl (by decide)) d_TrustDeskModel_propose_127 (vp_in_iff.mpr (by have := R618.1 1 _ _ rfl; have := R618.1 27 _ _ rfl; have := R618.1 32 _ _ rfl; have := R618.1 49 _ _ rfl; have := R618.1 53 _ _ rfl; omega)) (fun M636 I637 K638 R639 E640 A641 V642 => ?_)
                  have z643 := (V642 1).trans z622
                  have z644 := (V642 27).trans z623
                  have z645 := (V642 32).trans z624
                  have z646 := (V642 49).trans z625
                  have z647 := (V642 53).trans z626
                  have z648 := (A641 54 (by decide) rfl ((rv M0 o0 53).toNat)).trans z628
                  have K649 : ∀ i : Nat, i < 880 → 0 ≤ ra M636 o0 8 i := (by have e9 := ((sA_a A641 (by decide +kernel)) : sA [8] _ _ _) 8 rfl; rw [e9]; exact K629)
                  have K650 : rX M636 o0 := K630.same (sA_a A641 (by decide +kernel)) (sF_a V642)
                  have K651 : ∀ i, ra M636 o0 58 i = ra M0 o0 58 i := (fun i => (congrFun (((sA_a A641 (by decide +kernel)) : sA [58] _ _ _) 58 rfl) i).trans (K631 i))
                  have K652 : ∀ i, ra M636 o0 59 i = ra M0 o0 59 i := (fun i => (congrFun (((sA_a A641 (by decide +kernel)) : sA [59] _ _ _) 59 rfl) i).trans (K632 i))
                  have K653 : sA [6, 7, 8, 28] M0 M636 o0 := K633.trans (sA_a A641 (by decide +kernel))
                  clear z622 z623 z624 z625 z626 z628
                  refine mv_aload_n d_TrustDeskModel_propose_128 rfl rfl ?_
                  obtain ⟨a655, q654, t_a655⟩ := tm_atR I637 h_o0 (k := 56) rfl
                  refine tr_getK q654 d_TrustDeskModel_propose_129 f_TrustDeskModel_128_13 ?_
                  refine mv_aload_n d_TrustDeskModel_propose_132 rfl rfl ?_
                  refine tr_getK (k := 53) (K638 _ 13 53 _ (K617 _ 13 53 _ q30)) d_TrustDeskModel_propose_133 f_TrustDeskModel_501_13 ?_
                  refine mv_iload_n d_TrustDeskModel_propose_136 rfl rfl ?_
                  refine tr_iastR (k := 56) I637 R639 (I637.up h_o0) q654 t_a655 (by decide) (by decide) (fun lo hi h => by cases h) (Or.inl (by decide)) d_TrustDeskModel_propose_137 (vp_in_iff.mpr (by have := R639.1 1 _ _ rfl; have := R639.1 27 _ _ rfl; have := R639.1 32 _ _ rfl; have := R639.1 49 _ _ rfl; have := R639.1 53 _ _ rfl; omega)) (fun M656 I657 K658 R659 E660 A661 V662 => ?_)
                  have z663 := (V662 1).trans z643
                  have z664 := (V662 27).trans z644
                  have z665 := (V662 32).trans z645
                  have z666 := (V662 49).trans z646
                  have z667 := (V662 53).trans z647
                  have z668 := (A661 54 (by decide) rfl ((rv M0 o0 53).toNat)).trans z648
                  have h669 : (rv M0 o0 53).toNat = v31.toNatClampNeg := by have := mz_nat9 (i := v31) (by have := R639.1 1 _ _ rfl; have := R639.1 27 _ _ rfl; have := R639.1 32 _ _ rfl; have := R639.1 49 _ _ rfl; have := R639.1 53 _ _ rfl; omega); have := R639.1 1 _ _ rfl; have := R639.1 27 _ _ rfl; have := R639.1 32 _ _ rfl; have := R639.1 49 _ _ rfl; have := R639.1 53 _ _ rfl; omega
                  have z670 : ra M656 o0 56 ((rv M0 o0 53).toNat) = x3.toInt := (E660 _).trans (if_pos h669)
                  have K671 : ∀ i : Nat, i < 880 → 0 ≤ ra M656 o0 8 i := (by have e9 := ((sA_a A661 (by decide +kernel)) : sA [8] _ _ _) 8 rfl; rw [e9]; exact K649)
                  have K672 : rX M656 o0 := K650.out A661 E660 V662 (Or.inr rfl) (by have := mz_nat9 (i := v31) (by have := R639.1 1 _ _ rfl; have := R639.1 27 _ _ rfl; have := R639.1 32 _ _ rfl; have := R639.1 49 _ _ rfl; have := R639.1 53 _ _ rfl; omega); have := R639.1 1 _ _ rfl; have := R639.1 27 _ _ rfl; have := R639.1 32 _ _ rfl; have := R639.1 49 _ _ rfl; have := R639.1 53 _ _ rfl; omega)
                  have K673 : ∀ i, ra M656 o0 58 i = ra M0 o0 58 i := (fun i => (congrFun (((sA_a A661 (by decide +kernel)) : sA [58] _ _ _) 58 rfl) i).trans (K651 i))
                  have K674 : ∀ i, ra M656 o0 59 i = ra M0 o0 59 i := (fun i => (congrFun (((sA_a A661 (by decide +kernel)) : sA [59] _ _ _) 59 rfl) i).trans (K652 i))
                  have K675 : sA [6, 7, 8, 28] M0 M656 o0 := K653.trans (sA_a A661 (by decide +kernel))
                  clear z643 z644 z645 z646 z647 z648
                  refine mv_aload_n d_TrustDeskModel_propose_138 rfl rfl ?_
                  obtain ⟨a677, q676, t_a677⟩ := tm_atR I657 h_o0 (k := 57) rfl
                  refine tr_getK q676 d_TrustDeskModel_propose_139 f_TrustDeskModel_131_13 ?_
                  refine mv_aload_n d_TrustDeskModel_propose_142 rfl rfl ?_
                  refine tr_getK (k := 53) (K658 _ 13 53 _ (K638 _ 13 53 _ (K617 _ 13 53 _ q30))) d_TrustDeskModel_propose_143 f_TrustDeskModel_501_13 ?_
                  refine mv_aload_n d_TrustDeskModel_propose_146 rfl rfl ?_
                  obtain ⟨v679, q678⟩ := tm_atI I657 h_o0 (k := 1) rfl
                  refine tr_getK q678 d_TrustDeskModel_propose_147 f_TrustDeskModel_164_13 ?_
                  have := R659.f (k := 1) q678 rfl
                  have := (tm_rv q678).symm.trans z663
                  have := tm_rv q678
                  refine tr_iastR (k := 57) I657 R659 (I657.up h_o0) q676 t_a677 (by decide) (by decide) (fun lo hi h => by cases h) (Or.inl (by decide)) d_TrustDeskModel_propose_150 (vp_in_iff.mpr (by have := R659.1 1 _ _ rfl; have := R659.1 27 _ _ rfl; have := R659.1 32 _ _ rfl; have := R659.1 49 _ _ rfl; have := R659.1 53 _ _ rfl; omega)) (fun M680 I681 K682 R683 E684 A685 V686 => ?_)
                  have z687 := (V686 1).trans z663
                  have z688 := (V686 27).trans z664
                  have z689 := (V686 32).trans z665
                  have z690 := (V686 49).trans z666
                  have z691 := (V686 53).trans z667
                  have z692 := (A685 54 (by decide) rfl ((rv M0 o0 53).toNat)).trans z668
                  have z693 := (A685 56 (by decide) rfl ((rv M0 o0 53).toNat)).trans z670
                  have K694 : ∀ i : Nat, i < 880 → 0 ≤ ra M680 o0 8 i := (by have e9 := ((sA_a A685 (by decide +kernel)) : sA [8] _ _ _) 8 rfl; rw [e9]; exact K671)
                  have K695 : rX M680 o0 := K672.same (sA_a A685 (by decide +kernel)) (sF_a V686)
                  have K696 : ∀ i, ra M680 o0 58 i = ra M0 o0 58 i := (fun i => (congrFun (((sA_a A685 (by decide +kernel)) : sA [58] _ _ _) 58 rfl) i).trans (K673 i))
                  have K697 : ∀ i, ra M680 o0 59 i = ra M0 o0 59 i := (fun i => (congrFun (((sA_a A685 (by decide +kernel)) : sA [59] _ _ _) 59 rfl) i).trans (K674 i))
                  have K698 : sA [6, 7, 8, 28] M0 M680 o0 := K675.trans (sA_a A685 (by decide +kernel))
                  clear z663 z664 z665 z666 z667 z668 z670
                  refine mv_aload_n d_TrustDeskModel_propose_151 rfl rfl ?_
                  obtain ⟨a700, q699, t_a700⟩ := tm_atR I681 h_o0 (k := 58) rfl
                  refine tr_getK q699 d_TrustDeskModel_propose_152 f_TrustDeskModel_134_13 ?_
                  refine mv_aload_n d_TrustDeskModel_propose_155 rfl rfl ?_
                  refine tr_getK (k := 53) (K682 _ 13 53 _ (K658 _ 13 53 _ (K638 _ 13 53 _ (K617 _ 13 53 _ q30)))) d_TrustDeskModel_propose_156 f_TrustDeskModel_501_13 ?_
                  refine mv_aload_n d_TrustDeskModel_propose_159 rfl rfl ?_
                  refine tr_getK (k := 1) (K682 _ 13 1 _ q678) d_TrustDeskModel_propose_160 f_TrustDeskModel_164_13 ?_
                  refine mv_aload_n d_TrustDeskModel_propose_163 rfl rfl ?_
                  refine mv_aload_n d_TrustDeskModel_propose_164 rfl rfl ?_
                  refine tr_getK (k := 1) (K682 _ 13 1 _ q678) d_TrustDeskModel_propose_165 f_TrustDeskModel_164_13 ?_
                  refine mv_iconst (v := 2) d_TrustDeskModel_propose_168 (by decide) ?_
                  obtain ⟨_, b707, -⟩ := I681.1 _ _ h_o0
                  have : (2 : Int32).toInt = 2 := by decide
                  refine mv_callV (kc' := 0) (ks' := 0) (As := [.int v679, .int 2]) (st9 := [.int 2, .int v679, .ref o0, .int v679, .int v31, .ref a700]) d_TrustDeskModel_propose_169 lV_TrustDeskModel_396 b707 rfl (tc_TrustDeskModel_toldOn_a (d := d) (x9 := x9) (o0 := o0) (x1 := v679) (x2 := 2) h_o0 R683 K694 (by decide) I681.start) rfl (Nat.le_of_ble_eq_true rfl) (Nat.le_of_ble_eq_true rfl) (Nat.le_of_ble_eq_true rfl) (hst := rfl) (fun b701r M702 n703 b701 => ?_)
                  obtain ⟨T704, J705, v708, rfl, R709, f710, f711⟩ := b701
                  have I706 := I681.call J705 (tm_sub (by decide)) (Or.inl rfl)
                  have t712 := J705.up h_o0
                  have t713 := J705.up t_a700
                  have z714 := (rv_c I681 J705 (I681.up h_o0) (k := 1) rfl).trans z687
                  have z715 := (rv_c I681 J705 (I681.up h_o0) (k := 27) rfl).trans z688
                  have z716 := (rv_c I681 J705 (I681.up h_o0) (k := 32) rfl).trans z689
                  have z717 := (rv_c I681 J705 (I681.up h_o0) (k := 49) rfl).trans z690
                  have z718 := (rv_c I681 J705 (I681.up h_o0) (k := 53) rfl).trans z691
                  have z719 := (ra_call I681 J705 (I681.up h_o0) (k := 54) rfl rfl rfl ((rv M0 o0 53).toNat)).trans z692
                  have z720 := (ra_call I681 J705 (I681.up h_o0) (k := 56) rfl rfl rfl ((rv M0 o0 53).toNat)).trans z693
                  have K721 : ∀ i : Nat, i < 880 → 0 ≤ ra M702 o0 8 i := (by have e9 := ((sA_c I681 J705 (I681.up h_o0) (by decide +kernel)) : sA [8] _ _ _) 8 rfl; rw [e9]; exact K694)
                  have K722 : rX M702 o0 := K695.same (sA_c I681 J705 (I681.up h_o0) (by decide +kernel)) (sF_c I681 J705 (I681.up h_o0) (by decide +kernel))
                  have K723 : ∀ i, ra M702 o0 58 i = ra M0 o0 58 i := (fun i => (congrFun (((sA_c I681 J705 (I681.up h_o0) (by decide +kernel)) : sA [58] _ _ _) 58 rfl) i).trans (K696 i))
                  have K724 : ∀ i, ra M702 o0 59 i = ra M0 o0 59 i := (fun i => (congrFun (((sA_c I681 J705 (I681.up h_o0) (by decide +kernel)) : sA [59] _ _ _) 59 rfl) i).trans (K697 i))
                  have K725 : sA [6, 7, 8, 28] M0 M702 o0 := K698.trans (sA_c I681 J705 (I681.up h_o0) (by decide +kernel))
                  have h726 := f711.trans (p_tr_same K698 z688)
                  clear z687 z688 z689 z690 z691 z692 z693
                  have q727 := J705.keep h_o0 (by decide) (K682 _ 13 0 _ (K658 _ 13 0 _ (K638 _ 13 0 _ (K617 _ 13 0 _ q8))))
                  have q728 := J705.keep h_o0 (by decide) (K682 _ 13 32 _ (K658 _ 13 32 _ (K638 _ 13 32 _ (K617 _ 13 32 _ q25))))
                  have q729 := J705.keep h_o0 (by decide) (K682 _ 13 53 _ (K658 _ 13 53 _ (K638 _ 13 53 _ (K617 _ 13 53 _ q30))))
                  have q730 := J705.keep h_o0 (by decide) (K682 _ 13 49 _ (K658 _ 13 49 _ (K638 _ 13 49 _ (K617 _ 13 49 _ q610))))
                  have q731 := J705.keep h_o0 (by decide) (K682 _ 13 54 _ (K658 _ 13 54 _ (K638 _ 13 54 _ (K617 _ 13 54 _ q613))))
                  have t732 := J705.up t_a614
                  have q733 := J705.keep h_o0 (by decide) (K682 _ 13 55 _ (K658 _ 13 55 _ (K638 _ 13 55 _ q634)))
                  have t734 := J705.up t_a635
                  have q735 := J705.keep h_o0 (by decide) (K682 _ 13 56 _ (K658 _ 13 56 _ q654))
                  have t736 := J705.up t_a655
                  have q737 := J705.keep h_o0 (by decide) (K682 _ 13 57 _ q676)
                  have t738 := J705.up t_a677
                  have q739 := J705.keep h_o0 (by decide) (K682 _ 13 1 _ q678)
                  have q740 := J705.keep h_o0 (by decide) q699
                  refine mv_iadd d_TrustDeskModel_propose_172 ?_
                  refine tr_iastR (k := 58) I706 R709 (I706.up h_o0) q740 t713 (by decide) (by decide) (fun lo hi h => by cases h) (Or.inl (by decide)) d_TrustDeskModel_propose_173 (vp_in_iff.mpr (by have := R709.1 1 _ _ rfl; have := R709.1 27 _ _ rfl; have := R709.1 32 _ _ rfl; have := R709.1 49 _ _ rfl; have := R709.1 53 _ _ rfl; omega)) (fun M741 I742 K743 R744 E745 A746 V747 => ?_)
                  have z748 := (V747 1).trans z714
                  have z749 := (V747 27).trans z715
                  have z750 := (V747 32).trans z716
                  have z751 := (V747 49).trans z717
                  have z752 := (V747 53).trans z718
                  have z753 := (A746 54 (by decide) rfl ((rv M0 o0 53).toNat)).trans z719
                  have z754 := (A746 56 (by decide) rfl ((rv M0 o0 53).toNat)).trans z720
                  have K755 : ∀ i : Nat, i < 880 → 0 ≤ ra M741 o0 8 i := (by have e9 := ((sA_a A746 (by decide +kernel)) : sA [8] _ _ _) 8 rfl; rw [e9]; exact K721)
                  have K756 : rX M741 o0 := K722.same (sA_a A746 (by decide +kernel)) (sF_a V747)
                  have b757 : (v679 + v708 : Int32).toInt = (v679.toInt + v708.toInt) := mz_add2 rfl rfl (by have := R709.1 1 _ _ rfl; have := R709.1 27 _ _ rfl; have := R709.1 32 _ _ rfl; have := R709.1 49 _ _ rfl; have := R709.1 53 _ _ rfl; omega) (by have := R709.1 1 _ _ rfl; have := R709.1 27 _ _ rfl; have := R709.1 32 _ _ rfl; have := R709.1 49 _ _ rfl; have := R709.1 53 _ _ rfl; omega)
                  have h758 : (v679 + v708).toInt = rv M0 o0 1 + p_tr M0 o0 (rv M0 o0 1) 2 := by have e8 := h726; rw [show ((2 : Int32).toInt).toNat = 2 from by decide, show (v679 : Int32).toInt = rv M0 o0 1 from by omega] at e8; omega
                  have K759 : ∀ i, ra M741 o0 58 i = if i = (rv M0 o0 53).toNat then rv M0 o0 1 + p_tr M0 o0 (rv M0 o0 1) 2 else ra M0 o0 58 i := (fun i => (E745 i).trans (by rw [show v31.toNatClampNeg = (rv M0 o0 53).toNat from by have := mz_nat9 (i := v31) (by have := R709.1 1 _ _ rfl; have := R709.1 27 _ _ rfl; have := R709.1 32 _ _ rfl; have := R709.1 49 _ _ rfl; have := R709.1 53 _ _ rfl; omega); have := R709.1 1 _ _ rfl; have := R709.1 27 _ _ rfl; have := R709.1 32 _ _ rfl; have := R709.1 49 _ _ rfl; have := R709.1 53 _ _ rfl; omega, h758, K723 i]))
                  have K760 : ∀ i, ra M741 o0 59 i = ra M0 o0 59 i := (fun i => (congrFun (((sA_a A746 (by decide +kernel)) : sA [59] _ _ _) 59 rfl) i).trans (K724 i))
                  have K761 : sA [6, 7, 8, 28] M0 M741 o0 := K725.trans (sA_a A746 (by decide +kernel))
                  clear z714 z715 z716 z717 z718 z719 z720
                  refine mv_aload_n d_TrustDeskModel_propose_174 rfl rfl ?_
                  obtain ⟨a763, q762, t_a763⟩ := tm_atR I742 t712 (k := 59) rfl
                  refine tr_getK q762 d_TrustDeskModel_propose_175 f_TrustDeskModel_137_13 ?_
                  refine mv_aload_n d_TrustDeskModel_propose_178 rfl rfl ?_
                  refine tr_getK (k := 53) (K743 _ 13 53 _ q729) d_TrustDeskModel_propose_179 f_TrustDeskModel_501_13 ?_
                  refine mv_iconst (v := 0) d_TrustDeskModel_propose_182 (by decide) ?_
                  refine tr_iastR (k := 59) I742 R744 (I742.up h_o0) q762 t_a763 (by decide) (by decide) (fun lo hi h => by cases h) (Or.inl (by decide)) d_TrustDeskModel_propose_183 (vp_in_iff.mpr (by have := R744.1 1 _ _ rfl; have := R744.1 27 _ _ rfl; have := R744.1 32 _ _ rfl; have := R744.1 49 _ _ rfl; have := R744.1 53 _ _ rfl; omega)) (fun M764 I765 K766 R767 E768 A769 V770 => ?_)
                  have z771 := (V770 1).trans z748
                  have z772 := (V770 27).trans z749
                  have z773 := (V770 32).trans z750
                  have z774 := (V770 49).trans z751
                  have z775 := (V770 53).trans z752
                  have z776 := (A769 54 (by decide) rfl ((rv M0 o0 53).toNat)).trans z753
                  have z777 := (A769 56 (by decide) rfl ((rv M0 o0 53).toNat)).trans z754
                  have K778 : ∀ i : Nat, i < 880 → 0 ≤ ra M764 o0 8 i := (by have e9 := ((sA_a A769 (by decide +kernel)) : sA [8] _ _ _) 8 rfl; rw [e9]; exact K755)
                  have K779 : rX M764 o0 := K756.same (sA_a A769 (by decide +kernel)) (sF_a V770)
                  have K780 : ∀ i, ra M764 o0 58 i = if i = (rv M0 o0 53).toNat then rv M0 o0 1 + p_tr M0 o0 (rv M0 o0 1) 2 else ra M0 o0 58 i := (fun i => (congrFun (((sA_a A769 (by decide +kernel)) : sA [58] _ _ _) 58 rfl) i).trans (K759 i))
                  have K781 : ∀ i, ra M764 o0 59 i = if i = (rv M0 o0 53).toNat then 0 else ra M0 o0 59 i := (fun i => (E768 i).trans (by rw [show v31.toNatClampNeg = (rv M0 o0 53).toNat from by have := mz_nat9 (i := v31) (by have := R744.1 1 _ _ rfl; have := R744.1 27 _ _ rfl; have := R744.1 32 _ _ rfl; have := R744.1 49 _ _ rfl; have := R744.1 53 _ _ rfl; omega); have := R744.1 1 _ _ rfl; have := R744.1 27 _ _ rfl; have := R744.1 32 _ _ rfl; have := R744.1 49 _ _ rfl; have := R744.1 53 _ _ rfl; omega, show (0 : Int32).toInt = 0 from by decide, K760 i]))
                  have K782 : sA [6, 7, 8, 28] M0 M764 o0 := K761.trans (sA_a A769 (by decide +kernel))
                  clear z748 z749 z750 z751 z752 z753 z754
                  refine mv_aload_n d_TrustDeskModel_propose_184 rfl rfl ?_
                  refine mv_dup d_TrustDeskModel_propose_185 rfl ?_
                  refine tr_getK (k := 53) (K766 _ 13 53 _ (K743 _ 13 53 _ q729)) d_TrustDeskModel_propose_186 f_TrustDeskModel_501_13 ?_
                  refine mv_iconst (v := 1) d_TrustDeskModel_propose_189 (by decide) ?_
                  refine mv_iadd d_TrustDeskModel_propose_190 ?_
                  have b783 : (v31 + 1 : Int32).toInt = (v31.toInt + 1) := mz_add2 rfl (by decide) (by have := R767.1 1 _ _ rfl; have := R767.1 27 _ _ rfl; have := R767.1 32 _ _ rfl; have := R767.1 49 _ _ rfl; have := R767.1 53 _ _ rfl; omega) (by have := R767.1 1 _ _ rfl; have := R767.1 27 _ _ rfl; have := R767.1 32 _ _ rfl; have := R767.1 49 _ _ rfl; have := R767.1 53 _ _ rfl; omega)
                  refine tr_putR (k := 53) I765 R767 t712 rfl ⟨_, rfl⟩ (fun _ h => by cases h) rfl (fun lo hi h => by cases h; have := R767.1 1 _ _ rfl; have := R767.1 27 _ _ rfl; have := R767.1 32 _ _ rfl; have := R767.1 49 _ _ rfl; have := R767.1 53 _ _ rfl; exact ⟨by show (0 : Int) ≤ (v31 + 1).toInt; omega, by show (v31 + 1).toInt ≤ (40 : Int); omega⟩) (Or.inl (by decide)) d_TrustDeskModel_propose_191 p_TrustDeskModel_501_13 rfl rfl (fun M784 I785 q786 K787 R788 A789 V790 => ?_)
                  have z791 := (V790 1 (by decide)).trans z771
                  have z792 := (V790 27 (by decide)).trans z772
                  have z793 := (V790 32 (by decide)).trans z773
                  have z794 := (V790 49 (by decide)).trans z774
                  have z795 := (A789 54 (by decide) ((rv M0 o0 53).toNat)).trans z776
                  have z796 := (A789 56 (by decide) ((rv M0 o0 53).toNat)).trans z777
                  have z797 : rv M784 o0 53 = (v31 + 1).toInt := tm_rv q786
                  have K798 : ∀ i : Nat, i < 880 → 0 ≤ ra M784 o0 8 i := (by have e9 := ((sA_f A789 (by decide)) : sA [8] _ _ _) 8 rfl; rw [e9]; exact K778)
                  have K799 : rX M784 o0 := K779.inc (n := (rv M0 o0 53).toNat) A789 V790 (by omega) (by have := R767.1 1 _ _ rfl; have := R767.1 27 _ _ rfl; have := R767.1 32 _ _ rfl; have := R767.1 49 _ _ rfl; have := R767.1 53 _ _ rfl; omega) (by have := R767.1 1 _ _ rfl; have := R767.1 27 _ _ rfl; have := R767.1 32 _ _ rfl; have := R767.1 49 _ _ rfl; have := R767.1 53 _ _ rfl; omega) (fun _ => by omega) (fun _ => by omega) (fun _ => by omega)
                  have K800 : ∀ i, ra M784 o0 58 i = if i = (rv M0 o0 53).toNat then rv M0 o0 1 + p_tr M0 o0 (rv M0 o0 1) 2 else ra M0 o0 58 i := (fun i => (congrFun (((sA_f A789 (by decide)) : sA [58] _ _ _) 58 rfl) i).trans (K780 i))
                  have K801 : ∀ i, ra M784 o0 59 i = if i = (rv M0 o0 53).toNat then 0 else ra M0 o0 59 i := (fun i => (congrFun (((sA_f A789 (by decide)) : sA [59] _ _ _) 59 rfl) i).trans (K781 i))
                  have K802 : sA [6, 7, 8, 28] M0 M784 o0 := K782.trans (sA_f A789 (by decide))
                  clear z771 z772 z773 z774 z776 z777
                  refine mv_aload_n d_TrustDeskModel_propose_194 rfl rfl ?_
                  refine tr_getK (k := 53) q786 d_TrustDeskModel_propose_195 f_TrustDeskModel_501_13 ?_
                  refine mv_iconst (v := 1) d_TrustDeskModel_propose_198 (by decide) ?_
                  refine mv_isubv (v := v31) d_TrustDeskModel_propose_199 (Int32.add_sub_cancel _ _) ?_
                  exact mv_iret d_TrustDeskModel_propose_200 rfl (by first | rfl | decide) ⟨_, I785, _, rfl, R788, K799, (by have := R788.1 1 _ _ rfl; have := R788.1 27 _ _ rfl; have := R788.1 32 _ _ rfl; have := R788.1 49 _ _ rfl; have := R788.1 53 _ _ rfl; omega), (fun h9 => absurd h9 (by omega)), (fun _ => ⟨K800, K801⟩)⟩
          · refine mv_iconst (v := (-1)) d_TrustDeskModel_propose_34 (by decide) ?_
            exact mv_iret d_TrustDeskModel_propose_35 rfl (by first | rfl | decide) ⟨_, I7, _, rfl, R10, K19, (by have e9 : ((-1) : Int32).toInt = (-1) := (by decide); have := R10.1 1 _ _ rfl; have := R10.1 27 _ _ rfl; have := R10.1 32 _ _ rfl; have := R10.1 49 _ _ rfl; have := R10.1 53 _ _ rfl; omega), (fun _ => ⟨K20, K21⟩), (fun h9 => absurd (by decide) h9)⟩
