def w_TrustDeskModel_end_z : List Nat := [1300, 1314]
set_option maxHeartbeats 100000000 in theorem tc_TrustDeskModel_end_z {g : mj_G} {l : Launch} {d : Nat} {T0 : tm_H} {M0 : mj_M} {n0 x9 : Nat} {o0 : Nat} {x1 : Int32} (h_o0 : T0 o0 = some (0, 13, 0)) (yR : rI M0 o0) (I0 : tm_I tm_FT (tm_in w_TrustDeskModel_end_z) x9 T0 M0 n0 T0 M0 n0) : mj_Met g l kY_TrustDeskModel_end d [.ref o0, .int x1] M0 n0 0 0 (tm_Q tm_FT (tm_in w_TrustDeskModel_end_z) x9 T0 M0 n0 (fun r _ M => ∃ v : Int32, r = some (.int v) ∧ rI M o0 ∧ ((v.toInt = -1 ∧ ¬ (0 ≤ x1.toInt ∧ x1.toInt ≤ rv M0 o0 14) ∧ rv M o0 14 = rv M0 o0 14) ∨ (v.toInt = x1.toInt ∧ (0 ≤ x1.toInt ∧ x1.toInt ≤ rv M0 o0 14) ∧ rv M o0 14 = x1.toInt)))) := by
  refine mj_enter (by decide) (Nat.le_of_ble_eq_true rfl) ?_
  refine mv_aload_n d_TrustDeskModel_end_0 rfl rfl ?_
  refine mv_iconst (v := 0) d_TrustDeskModel_end_1 (by decide) ?_
  refine tr_putR (k := 0) I0 yR h_o0 rfl ⟨_, rfl⟩ (fun _ h => by cases h) rfl (fun lo hi h => by cases h) (Or.inl (by decide)) d_TrustDeskModel_end_2 p_TrustDeskModel_1_13 rfl rfl (fun M1 I2 q3 K4 R5 A6 V7 => ?_)
  have z8 := (V7 14 (by decide))
  refine mv_iload_n d_TrustDeskModel_end_5 rfl rfl ?_
  have := mz_hi x1
  refine mv_if_ltZ (tgt := 17) (a := x1.toInt) d_TrustDeskModel_end_6 (by decide) rfl (fun b9 => ?_) (fun b9 => ?_)
  · refine mv_iconst (v := (-1)) d_TrustDeskModel_end_17 (by decide) ?_
    exact mv_iret d_TrustDeskModel_end_18 rfl (by first | rfl | decide) ⟨_, I2, _, rfl, R5, (by have e9 : ((-1) : Int32).toInt = (-1) := (by decide); have := R5.1 14 _ _ rfl; omega)⟩
  · refine mv_iload_n d_TrustDeskModel_end_9 rfl rfl ?_
    refine mv_aload_n d_TrustDeskModel_end_10 rfl rfl ?_
    obtain ⟨v11, q10⟩ := tm_atI I2 h_o0 (k := 14) rfl
    refine tr_getK q10 d_TrustDeskModel_end_11 f_TrustDeskModel_189_13 ?_
    have := R5.f (k := 14) q10 rfl
    have := (tm_rv q10).symm.trans z8
    have := tm_rv q10
    have := mz_hi x1
    have := mz_hi v11
    refine mv_icmp_leZ (tgt := 19) (a := x1.toInt) (b := v11.toInt) d_TrustDeskModel_end_14 (by decide) rfl rfl (fun b12 => ?_) (fun b12 => ?_)
    · refine mv_aload_n d_TrustDeskModel_end_19 rfl rfl ?_
      refine mv_iload_n d_TrustDeskModel_end_20 rfl rfl ?_
      refine tr_putR (k := 14) I2 R5 h_o0 rfl ⟨_, rfl⟩ (fun _ h => by cases h) rfl (fun lo hi h => by cases h; have := R5.1 14 _ _ rfl; exact ⟨by show (0 : Int) ≤ x1.toInt; omega, by show x1.toInt ≤ (400 : Int); omega⟩) (Or.inl (by decide)) d_TrustDeskModel_end_21 p_TrustDeskModel_189_13 rfl rfl (fun M13 I14 q15 K16 R17 A18 V19 => ?_)
      have z20 : rv M13 o0 14 = x1.toInt := tm_rv q15
      refine mv_iload_n d_TrustDeskModel_end_24 rfl rfl ?_
      exact mv_iret d_TrustDeskModel_end_25 rfl (by first | rfl | decide) ⟨_, I14, _, rfl, R17, (by have := R17.1 14 _ _ rfl; omega)⟩
    · refine mv_iconst (v := (-1)) d_TrustDeskModel_end_17 (by decide) ?_
      exact mv_iret d_TrustDeskModel_end_18 rfl (by first | rfl | decide) ⟨_, I2, _, rfl, R5, (by have e9 : ((-1) : Int32).toInt = (-1) := (by decide); have := R5.1 14 _ _ rfl; omega)⟩
def w_TrustDeskModel_place_z : List Nat := [1300]
set_option maxHeartbeats 100000000 in theorem tc_TrustDeskModel_place_z {g : mj_G} {l : Launch} {d : Nat} {T0 : tm_H} {M0 : mj_M} {n0 x9 : Nat} {o0 : Nat} (h_o0 : T0 o0 = some (0, 13, 0)) (yR : rI M0 o0) (I0 : tm_I tm_FT (tm_in w_TrustDeskModel_place_z) x9 T0 M0 n0 T0 M0 n0) : mj_Met g l kY_TrustDeskModel_place d [.ref o0] M0 n0 0 0 (tm_Q tm_FT (tm_in w_TrustDeskModel_place_z) x9 T0 M0 n0 (fun r _ M => ∃ v : Int32, r = some (.int v) ∧ rI M o0 ∧ (v.toInt = rv M0 o0 21))) := by
  refine mj_enter (by decide) (Nat.le_of_ble_eq_true rfl) ?_
  refine mv_aload_n d_TrustDeskModel_place_0 rfl rfl ?_
  refine mv_iconst (v := 0) d_TrustDeskModel_place_1 (by decide) ?_
  refine tr_putR (k := 0) I0 yR h_o0 rfl ⟨_, rfl⟩ (fun _ h => by cases h) rfl (fun lo hi h => by cases h) (Or.inl (by decide)) d_TrustDeskModel_place_2 p_TrustDeskModel_1_13 rfl rfl (fun M1 I2 q3 K4 R5 A6 V7 => ?_)
  have z8 := (V7 21 (by decide))
  refine mv_aload_n d_TrustDeskModel_place_5 rfl rfl ?_
  obtain ⟨v10, q9⟩ := tm_atI I2 h_o0 (k := 21) rfl
  refine tr_getK q9 d_TrustDeskModel_place_6 f_TrustDeskModel_48_13 ?_
  have := (tm_rv q9).symm.trans z8
  have := tm_rv q9
  exact mv_iret d_TrustDeskModel_place_9 rfl (by first | rfl | decide) ⟨_, I2, _, rfl, R5, (by omega)⟩
def w_TrustDeskModel_feed_z : List Nat := [1300, 1314, 20013]
set_option maxHeartbeats 100000000 in theorem tc_TrustDeskModel_feed_z {g : mj_G} {l : Launch} {d : Nat} {T0 : tm_H} {M0 : mj_M} {n0 x9 : Nat} {o0 : Nat} {x1 : Int32} {x2 : Int32} {x3 : Int32} {x4 : Int32} {x5 : Int32} (h_o0 : T0 o0 = some (0, 13, 0)) (yR : rI M0 o0) {pb : Nat → Int} {pn : Nat} (yXT : pX M0 o0 pb pn) (I0 : tm_I tm_FT (tm_in w_TrustDeskModel_feed_z) x9 T0 M0 n0 T0 M0 n0) : mj_Met g l kY_TrustDeskModel_feed d [.ref o0, .int x1, .int x2, .int x3, .int x4, .int x5] M0 n0 0 0 (tm_Q tm_FT (tm_in w_TrustDeskModel_feed_z) x9 T0 M0 n0 (fun r _ M => ∃ v : Int32, r = some (.int v) ∧ rI M o0 ∧ (v.toInt = -1 ∧ 380 < pn ∧ pX M o0 pb pn ∨ v.toInt = (pn : Int) + 20 ∧ pn ≤ 380 ∧ pX M o0 (p_f20 pb pn x1.toInt x2.toInt x3.toInt x4.toInt x5.toInt) (pn + 20)))) := by
  refine mj_enter (by decide) (Nat.le_of_ble_eq_true rfl) ?_
  refine mv_aload_n d_TrustDeskModel_feed_0 rfl rfl ?_
  refine mv_iconst (v := 0) d_TrustDeskModel_feed_1 (by decide) ?_
  refine tr_putR (k := 0) I0 yR h_o0 rfl ⟨_, rfl⟩ (fun _ h => by cases h) rfl (fun lo hi h => by cases h) (Or.inl (by decide)) d_TrustDeskModel_feed_2 p_TrustDeskModel_1_13 rfl rfl (fun M1 I2 q3 K4 R5 A6 V7 => ?_)
  have z8 := (V7 14 (by decide))
  have K9 : pX M1 o0 pb pn := yXT.same (sA_f A6 (by decide)) (sF_f V7 (by decide))
  refine mv_aload_n d_TrustDeskModel_feed_5 rfl rfl ?_
  obtain ⟨v11, q10⟩ := tm_atI I2 h_o0 (k := 14) rfl
  refine tr_getK q10 d_TrustDeskModel_feed_6 f_TrustDeskModel_189_13 ?_
  have := R5.f (k := 14) q10 rfl
  have := (tm_rv q10).symm.trans z8
  have := tm_rv q10
  refine mv_bipush (v := 20) d_TrustDeskModel_feed_9 (by decide) ?_
  have := yXT.1
  have := yXT.2.1
  refine mv_iadd d_TrustDeskModel_feed_11 ?_
  refine mv_sipush (v := 400) d_TrustDeskModel_feed_12 (by decide) ?_
  have b12 : (v11 + 20 : Int32).toInt = (v11.toInt + 20) := mz_add2 rfl (by decide) (by have := R5.1 14 _ _ rfl; omega) (by have := R5.1 14 _ _ rfl; omega)
  have := mz_hi (v11 + 20)
  refine mv_icmp_leZ (tgt := 20) (a := (v11 + 20).toInt) (b := 400) d_TrustDeskModel_feed_15 (by decide) rfl (by decide) (fun b13 => ?_) (fun b13 => ?_)
  · refine mv_iconst (v := 0) d_TrustDeskModel_feed_20 (by decide) ?_
    refine mv_istore (lv' := [(6, .int 0), (0, .ref o0), (1, .int x1), (2, .int x2), (3, .int x3), (4, .int x4), (5, .int x5)]) d_TrustDeskModel_feed_21 (by decide) rfl ?_
    have L23_14 : ∀ (k : Nat) (i6_14 : Int32) (T_14 : tm_H) (M_14 : mj_M) (n_14 : Nat), tm_I tm_FT (tm_in w_TrustDeskModel_feed_z) x9 T0 M0 n0 T_14 M_14 n_14 → T_14 o0 = some (0, 13, 0) → 0 ≤ i6_14.toInt → i6_14.toInt ≤ 20 → pX M_14 o0 (p_fk pb pn x1.toInt x2.toInt x3.toInt x4.toInt x5.toInt (i6_14.toInt).toNat) (pn + (i6_14.toInt).toNat) → (rI M_14 o0) → 2147483647 - i6_14.toInt < (k : Int) → mj_V g l kY_TrustDeskModel_feed d 23 [(6, .int i6_14), (0, .ref o0), (1, .int x1), (2, .int x2), (3, .int x3), (4, .int x4), (5, .int x5)] [] M_14 n_14 0 0 (tm_Q tm_FT (tm_in w_TrustDeskModel_feed_z) x9 T0 M0 n0 (fun r _ M => ∃ v : Int32, r = some (.int v) ∧ rI M o0 ∧ (v.toInt = -1 ∧ 380 < pn ∧ pX M o0 pb pn ∨ v.toInt = (pn : Int) + 20 ∧ pn ≤ 380 ∧ pX M o0 (p_f20 pb pn x1.toInt x2.toInt x3.toInt x4.toInt x5.toInt) (pn + 20)))) := by
      intro k14
      induction k14 with
      | zero =>
        intro i6_14 T_14 M_14 n_14 I_14 h_q0_14 iv0_14 iv1_14 iv2_14 kKR_14 hk14
        have := mz_hi i6_14
        have := kKR_14.1 15 _ _ rfl
        have := kKR_14.1 16 _ _ rfl
        have := kKR_14.1 19 _ _ rfl
        omega
      | succ k14 ih14 =>
        intro i6_14 T_14 M_14 n_14 I_14 h_q0_14 iv0_14 iv1_14 iv2_14 kKR_14 hk14
        have := iv2_14.1
        refine mv_iload d_TrustDeskModel_feed_23 rfl ?_
        refine mv_bipush (v := 20) d_TrustDeskModel_feed_25 (by decide) ?_
        have := mz_hi i6_14
        refine mv_icmp_geZ (tgt := 117) (a := i6_14.toInt) (b := 20) d_TrustDeskModel_feed_27 (by decide) rfl (by decide) (fun b15 => ?_) (fun b15 => ?_)
        · refine mv_aload_n d_TrustDeskModel_feed_117 rfl rfl ?_
          obtain ⟨v17, q16⟩ := tm_atI I_14 h_q0_14 (k := 14) rfl
          refine tr_getK q16 d_TrustDeskModel_feed_118 f_TrustDeskModel_189_13 ?_
          have := kKR_14.f (k := 14) q16 rfl
          have := tm_rv q16
          exact mv_iret d_TrustDeskModel_feed_121 rfl (by first | rfl | decide) ⟨_, I_14, _, rfl, kKR_14, (Or.inr ⟨by have := iv2_14.1; omega, by omega, by have e9 := iv2_14; rw [show (i6_14.toInt).toNat = 20 from by omega] at e9; rw [p_f20_fk]; exact e9⟩)⟩
        · rcases (show i6_14.toInt = 0 ∨ i6_14.toInt = 1 ∨ i6_14.toInt = 2 ∨ i6_14.toInt = 3 ∨ i6_14.toInt = 4 ∨ i6_14.toInt = 5 ∨ i6_14.toInt = 6 ∨ i6_14.toInt = 7 ∨ i6_14.toInt = 8 ∨ i6_14.toInt = 9 ∨ i6_14.toInt = 10 ∨ i6_14.toInt = 11 ∨ i6_14.toInt = 12 ∨ i6_14.toInt = 13 ∨ i6_14.toInt = 14 ∨ i6_14.toInt = 15 ∨ i6_14.toInt = 16 ∨ i6_14.toInt = 17 ∨ i6_14.toInt = 18 ∨ i6_14.toInt = 19 by omega) with b18 | b18 | b18 | b18 | b18 | b18 | b18 | b18 | b18 | b18 | b18 | b18 | b18 | b18 | b18 | b18 | b18 | b18 | b18 | b18
          · obtain rfl : i6_14 = (0 : Int32) := Int32.toInt_inj.mp (b18.trans (by decide))
            have : (0 : Int32).toInt = 0 := by decide
            have : (1 : Int32).toInt = 1 := by decide
            rw [show ((0 : Int32).toInt).toNat = 0 from by decide] at iv2_14
            refine mv_iload d_TrustDeskModel_feed_30 rfl ?_
            refine mv_iconst (v := 4) d_TrustDeskModel_feed_32 (by decide) ?_
            refine mv_icmp_ge_f (tgt := 40) d_TrustDeskModel_feed_33 (by decide) (by decide) ?_
            refine mv_iload_n d_TrustDeskModel_feed_36 rfl rfl ?_
            refine mv_goto (tgt := 76) d_TrustDeskModel_feed_37 (by decide) ?_
            refine mv_istore (lv' := [(7, .int x1), (6, .int 0), (0, .ref o0), (1, .int x1), (2, .int x2), (3, .int x3), (4, .int x4), (5, .int x5)]) d_TrustDeskModel_feed_76 (by decide) rfl ?_
            refine mv_aload_n d_TrustDeskModel_feed_78 rfl rfl ?_
            obtain ⟨a20, q19, t_a20⟩ := tm_atR I_14 h_q0_14 (k := 13) rfl
            refine tr_getK q19 d_TrustDeskModel_feed_79 f_TrustDeskModel_44_13 ?_
            refine mv_aload_n d_TrustDeskModel_feed_82 rfl rfl ?_
            obtain ⟨v22, q21⟩ := tm_atI I_14 h_q0_14 (k := 14) rfl
            refine tr_getK q21 d_TrustDeskModel_feed_83 f_TrustDeskModel_189_13 ?_
            have := kKR_14.f (k := 14) q21 rfl
            have := tm_rv q21
            refine mv_iload d_TrustDeskModel_feed_86 rfl ?_
            refine mv_bipush (v := 24) d_TrustDeskModel_feed_88 (by decide) ?_
            refine mv_bipush (v := 8) d_TrustDeskModel_feed_90 (by decide) ?_
            refine mv_iload d_TrustDeskModel_feed_92 rfl ?_
            refine mv_iconst (v := 4) d_TrustDeskModel_feed_94 (by decide) ?_
            refine mv_iremv (v := 0) d_TrustDeskModel_feed_95 (by decide) (by decide) ?_
            refine mv_imulv (v := 0) d_TrustDeskModel_feed_96 (by decide) ?_
            refine mv_isubv (v := 24) d_TrustDeskModel_feed_97 (by decide) ?_
            refine mv_ishr d_TrustDeskModel_feed_98 ?_
            refine mv_i2b (v := (x1 >>> (24 &&& 31)).toInt8.toInt32) d_TrustDeskModel_feed_99 rfl ?_
            refine tr_bastE (k := 13) I_14 kKR_14 (I_14.up h_o0) q19 t_a20 (by decide) (by decide) (fun lo hi h => by cases h; exact mz_nar9 _) (Or.inl (by decide)) d_TrustDeskModel_feed_100 (vp_in_iff.mpr (by omega)) (fun M23 I24 K25 R26 E27 A28 V29 => ?_)
            have z30 := (V29 14)
            refine mv_aload_n d_TrustDeskModel_feed_101 rfl rfl ?_
            refine mv_dup d_TrustDeskModel_feed_102 rfl ?_
            refine tr_getK (k := 14) (K25 _ 13 14 _ q21) d_TrustDeskModel_feed_103 f_TrustDeskModel_189_13 ?_
            refine mv_iconst (v := 1) d_TrustDeskModel_feed_106 (by decide) ?_
            refine mv_iadd d_TrustDeskModel_feed_107 ?_
            obtain ⟨w31, h32, b33⟩ : ∃ w9 : Int32, (v22 + 1) = w9 ∧ w9.toInt = v22.toInt + 1 := ⟨_, rfl, mz_add2 rfl (by decide) (by omega) (by omega)⟩
            rw [h32]
            clear h32
            refine tr_putR (k := 14) I24 R26 h_q0_14 rfl ⟨_, rfl⟩ (fun _ h => by cases h) rfl (fun lo hi h => by cases h; have := R26.1 14 _ _ rfl; exact ⟨by show (0 : Int) ≤ w31.toInt; omega, by show w31.toInt ≤ (400 : Int); omega⟩) (Or.inl (by decide)) d_TrustDeskModel_feed_108 p_TrustDeskModel_189_13 rfl rfl (fun M34 I35 q36 K37 R38 A39 V40 => ?_)
            have z41 : rv M34 o0 14 = w31.toInt := tm_rv q36
            have X42 : pX M34 o0 (p_fk pb pn x1.toInt x2.toInt x3.toInt x4.toInt x5.toInt 1) (pn + 1) := iv2_14.put (u := (x1.toInt / 16777216 % 256)) (m := v22.toNatClampNeg) E27 (fun j => A39 13 (by decide) j) ((tm_rv q36).trans (by omega)) (by have := mz_nat9 (i := v22) (by omega); omega) (by omega) (by omega) (mz_sb24 x1)
            refine mv_iinc (v := 1) (lv' := [(6, .int 1), (7, .int x1), (0, .ref o0), (1, .int x1), (2, .int x2), (3, .int x3), (4, .int x4), (5, .int x5)]) d_TrustDeskModel_feed_111 rfl (by decide) (by decide) rfl ?_
            refine mv_goto (tgt := 23) d_TrustDeskModel_feed_114 (by decide) ?_
            have : (1 : Int32).toInt = 1 := by decide
            refine mv_locals (lv' := [(6, .int 1), (0, .ref o0), (1, .int x1), (2, .int x2), (3, .int x3), (4, .int x4), (5, .int x5)]) (by intro q hq; simp only [List.mem_cons, List.not_mem_nil, or_false] at hq; rcases hq with rfl | rfl | rfl | rfl | rfl | rfl | rfl <;> rfl) ?_
            exact (ih14 1 T_14 M34 n_14 I35 h_q0_14 (by have := R38.1 14 _ _ rfl; first | omega | decide | exact fun h9 => absurd (by decide) h9) (by have := R38.1 14 _ _ rfl; first | omega | decide | exact fun h9 => absurd (by decide) h9) (by rw [show ((1 : Int32).toInt).toNat = 1 from by decide]; exact X42) R38 (by have := R38.1 14 _ _ rfl; omega))
          · obtain rfl : i6_14 = (1 : Int32) := Int32.toInt_inj.mp (b18.trans (by decide))
            have : (1 : Int32).toInt = 1 := by decide
            have : (2 : Int32).toInt = 2 := by decide
            rw [show ((1 : Int32).toInt).toNat = 1 from by decide] at iv2_14
            refine mv_iload d_TrustDeskModel_feed_30 rfl ?_
            refine mv_iconst (v := 4) d_TrustDeskModel_feed_32 (by decide) ?_
            refine mv_icmp_ge_f (tgt := 40) d_TrustDeskModel_feed_33 (by decide) (by decide) ?_
            refine mv_iload_n d_TrustDeskModel_feed_36 rfl rfl ?_
            refine mv_goto (tgt := 76) d_TrustDeskModel_feed_37 (by decide) ?_
            refine mv_istore (lv' := [(7, .int x1), (6, .int 1), (0, .ref o0), (1, .int x1), (2, .int x2), (3, .int x3), (4, .int x4), (5, .int x5)]) d_TrustDeskModel_feed_76 (by decide) rfl ?_
            refine mv_aload_n d_TrustDeskModel_feed_78 rfl rfl ?_
            obtain ⟨a44, q43, t_a44⟩ := tm_atR I_14 h_q0_14 (k := 13) rfl
            refine tr_getK q43 d_TrustDeskModel_feed_79 f_TrustDeskModel_44_13 ?_
            refine mv_aload_n d_TrustDeskModel_feed_82 rfl rfl ?_
            obtain ⟨v46, q45⟩ := tm_atI I_14 h_q0_14 (k := 14) rfl
            refine tr_getK q45 d_TrustDeskModel_feed_83 f_TrustDeskModel_189_13 ?_
            have := kKR_14.f (k := 14) q45 rfl
            have := tm_rv q45
            refine mv_iload d_TrustDeskModel_feed_86 rfl ?_
            refine mv_bipush (v := 24) d_TrustDeskModel_feed_88 (by decide) ?_
            refine mv_bipush (v := 8) d_TrustDeskModel_feed_90 (by decide) ?_
            refine mv_iload d_TrustDeskModel_feed_92 rfl ?_
            refine mv_iconst (v := 4) d_TrustDeskModel_feed_94 (by decide) ?_
            refine mv_iremv (v := 1) d_TrustDeskModel_feed_95 (by decide) (by decide) ?_
            refine mv_imulv (v := 8) d_TrustDeskModel_feed_96 (by decide) ?_
            refine mv_isubv (v := 16) d_TrustDeskModel_feed_97 (by decide) ?_
            refine mv_ishr d_TrustDeskModel_feed_98 ?_
            refine mv_i2b (v := (x1 >>> (16 &&& 31)).toInt8.toInt32) d_TrustDeskModel_feed_99 rfl ?_
            refine tr_bastE (k := 13) I_14 kKR_14 (I_14.up h_o0) q43 t_a44 (by decide) (by decide) (fun lo hi h => by cases h; exact mz_nar9 _) (Or.inl (by decide)) d_TrustDeskModel_feed_100 (vp_in_iff.mpr (by omega)) (fun M47 I48 K49 R50 E51 A52 V53 => ?_)
            have z54 := (V53 14)
            refine mv_aload_n d_TrustDeskModel_feed_101 rfl rfl ?_
            refine mv_dup d_TrustDeskModel_feed_102 rfl ?_
            refine tr_getK (k := 14) (K49 _ 13 14 _ q45) d_TrustDeskModel_feed_103 f_TrustDeskModel_189_13 ?_
            refine mv_iconst (v := 1) d_TrustDeskModel_feed_106 (by decide) ?_
            refine mv_iadd d_TrustDeskModel_feed_107 ?_
            obtain ⟨w55, h56, b57⟩ : ∃ w9 : Int32, (v46 + 1) = w9 ∧ w9.toInt = v46.toInt + 1 := ⟨_, rfl, mz_add2 rfl (by decide) (by omega) (by omega)⟩
            rw [h56]
            clear h56
            refine tr_putR (k := 14) I48 R50 h_q0_14 rfl ⟨_, rfl⟩ (fun _ h => by cases h) rfl (fun lo hi h => by cases h; have := R50.1 14 _ _ rfl; exact ⟨by show (0 : Int) ≤ w55.toInt; omega, by show w55.toInt ≤ (400 : Int); omega⟩) (Or.inl (by decide)) d_TrustDeskModel_feed_108 p_TrustDeskModel_189_13 rfl rfl (fun M58 I59 q60 K61 R62 A63 V64 => ?_)
            have z65 : rv M58 o0 14 = w55.toInt := tm_rv q60
            have X66 : pX M58 o0 (p_fk pb pn x1.toInt x2.toInt x3.toInt x4.toInt x5.toInt 2) (pn + 2) := iv2_14.put (u := (x1.toInt / 65536 % 256)) (m := v46.toNatClampNeg) E51 (fun j => A63 13 (by decide) j) ((tm_rv q60).trans (by omega)) (by have := mz_nat9 (i := v46) (by omega); omega) (by omega) (by omega) (mz_sb16 x1)
            refine mv_iinc (v := 2) (lv' := [(6, .int 2), (7, .int x1), (0, .ref o0), (1, .int x1), (2, .int x2), (3, .int x3), (4, .int x4), (5, .int x5)]) d_TrustDeskModel_feed_111 rfl (by decide) (by decide) rfl ?_
            refine mv_goto (tgt := 23) d_TrustDeskModel_feed_114 (by decide) ?_
            have : (2 : Int32).toInt = 2 := by decide
            refine mv_locals (lv' := [(6, .int 2), (0, .ref o0), (1, .int x1), (2, .int x2), (3, .int x3), (4, .int x4), (5, .int x5)]) (by intro q hq; simp only [List.mem_cons, List.not_mem_nil, or_false] at hq; rcases hq with rfl | rfl | rfl | rfl | rfl | rfl | rfl <;> rfl) ?_
            exact (ih14 2 T_14 M58 n_14 I59 h_q0_14 (by have := R62.1 14 _ _ rfl; first | omega | decide | exact fun h9 => absurd (by decide) h9) (by have := R62.1 14 _ _ rfl; first | omega | decide | exact fun h9 => absurd (by decide) h9) (by rw [show ((2 : Int32).toInt).toNat = 2 from by decide]; exact X66) R62 (by have := R62.1 14 _ _ rfl; omega))
          · obtain rfl : i6_14 = (2 : Int32) := Int32.toInt_inj.mp (b18.trans (by decide))
            have : (2 : Int32).toInt = 2 := by decide
            have : (3 : Int32).toInt = 3 := by decide
            rw [show ((2 : Int32).toInt).toNat = 2 from by decide] at iv2_14
            refine mv_iload d_TrustDeskModel_feed_30 rfl ?_
            refine mv_iconst (v := 4) d_TrustDeskModel_feed_32 (by decide) ?_
            refine mv_icmp_ge_f (tgt := 40) d_TrustDeskModel_feed_33 (by decide) (by decide) ?_
            refine mv_iload_n d_TrustDeskModel_feed_36 rfl rfl ?_
            refine mv_goto (tgt := 76) d_TrustDeskModel_feed_37 (by decide) ?_
            refine mv_istore (lv' := [(7, .int x1), (6, .int 2), (0, .ref o0), (1, .int x1), (2, .int x2), (3, .int x3), (4, .int x4), (5, .int x5)]) d_TrustDeskModel_feed_76 (by decide) rfl ?_
            refine mv_aload_n d_TrustDeskModel_feed_78 rfl rfl ?_
            obtain ⟨a68, q67, t_a68⟩ := tm_atR I_14 h_q0_14 (k := 13) rfl
            refine tr_getK q67 d_TrustDeskModel_feed_79 f_TrustDeskModel_44_13 ?_
            refine mv_aload_n d_TrustDeskModel_feed_82 rfl rfl ?_
            obtain ⟨v70, q69⟩ := tm_atI I_14 h_q0_14 (k := 14) rfl
            refine tr_getK q69 d_TrustDeskModel_feed_83 f_TrustDeskModel_189_13 ?_
            have := kKR_14.f (k := 14) q69 rfl
            have := tm_rv q69
            refine mv_iload d_TrustDeskModel_feed_86 rfl ?_
            refine mv_bipush (v := 24) d_TrustDeskModel_feed_88 (by decide) ?_
            refine mv_bipush (v := 8) d_TrustDeskModel_feed_90 (by decide) ?_
            refine mv_iload d_TrustDeskModel_feed_92 rfl ?_
            refine mv_iconst (v := 4) d_TrustDeskModel_feed_94 (by decide) ?_
            refine mv_iremv (v := 2) d_TrustDeskModel_feed_95 (by decide) (by decide) ?_
            refine mv_imulv (v := 16) d_TrustDeskModel_feed_96 (by decide) ?_
            refine mv_isubv (v := 8) d_TrustDeskModel_feed_97 (by decide) ?_
            refine mv_ishr d_TrustDeskModel_feed_98 ?_
            refine mv_i2b (v := (x1 >>> (8 &&& 31)).toInt8.toInt32) d_TrustDeskModel_feed_99 rfl ?_
            refine tr_bastE (k := 13) I_14 kKR_14 (I_14.up h_o0) q67 t_a68 (by decide) (by decide) (fun lo hi h => by cases h; exact mz_nar9 _) (Or.inl (by decide)) d_TrustDeskModel_feed_100 (vp_in_iff.mpr (by omega)) (fun M71 I72 K73 R74 E75 A76 V77 => ?_)
            have z78 := (V77 14)
            refine mv_aload_n d_TrustDeskModel_feed_101 rfl rfl ?_
            refine mv_dup d_TrustDeskModel_feed_102 rfl ?_
            refine tr_getK (k := 14) (K73 _ 13 14 _ q69) d_TrustDeskModel_feed_103 f_TrustDeskModel_189_13 ?_
            refine mv_iconst (v := 1) d_TrustDeskModel_feed_106 (by decide) ?_
            refine mv_iadd d_TrustDeskModel_feed_107 ?_
            obtain ⟨w79, h80, b81⟩ : ∃ w9 : Int32, (v70 + 1) = w9 ∧ w9.toInt = v70.toInt + 1 := ⟨_, rfl, mz_add2 rfl (by decide) (by omega) (by omega)⟩
            rw [h80]
            clear h80
            refine tr_putR (k := 14) I72 R74 h_q0_14 rfl ⟨_, rfl⟩ (fun _ h => by cases h) rfl (fun lo hi h => by cases h; have := R74.1 14 _ _ rfl; exact ⟨by show (0 : Int) ≤ w79.toInt; omega, by show w79.toInt ≤ (400 : Int); omega⟩) (Or.inl (by decide)) d_TrustDeskModel_feed_108 p_TrustDeskModel_189_13 rfl rfl (fun M82 I83 q84 K85 R86 A87 V88 => ?_)
            have z89 : rv M82 o0 14 = w79.toInt := tm_rv q84
            have X90 : pX M82 o0 (p_fk pb pn x1.toInt x2.toInt x3.toInt x4.toInt x5.toInt 3) (pn + 3) := iv2_14.put (u := (x1.toInt / 256 % 256)) (m := v70.toNatClampNeg) E75 (fun j => A87 13 (by decide) j) ((tm_rv q84).trans (by omega)) (by have := mz_nat9 (i := v70) (by omega); omega) (by omega) (by omega) (mz_sb8 x1)
            refine mv_iinc (v := 3) (lv' := [(6, .int 3), (7, .int x1), (0, .ref o0), (1, .int x1), (2, .int x2), (3, .int x3), (4, .int x4), (5, .int x5)]) d_TrustDeskModel_feed_111 rfl (by decide) (by decide) rfl ?_
            refine mv_goto (tgt := 23) d_TrustDeskModel_feed_114 (by decide) ?_
            have : (3 : Int32).toInt = 3 := by decide
            refine mv_locals (lv' := [(6, .int 3), (0, .ref o0), (1, .int x1), (2, .int x2), (3, .int x3), (4, .int x4), (5, .int x5)]) (by intro q hq; simp only [List.mem_cons, List.not_mem_nil, or_false] at hq; rcases hq with rfl | rfl | rfl | rfl | rfl | rfl | rfl <;> rfl) ?_
            exact (ih14 3 T_14 M82 n_14 I83 h_q0_14 (by have := R86.1 14 _ _ rfl; first | omega | decide | exact fun h9 => absurd (by decide) h9) (by have := R86.1 14 _ _ rfl; first | omega | decide | exact fun h9 => absurd (by decide) h9) (by rw [show ((3 : Int32).toInt).toNat = 3 from by decide]; exact X90) R86 (by have := R86.1 14 _ _ rfl; omega))
          · obtain rfl : i6_14 = (3 : Int32) := Int32.toInt_inj.mp (b18.trans (by decide))
            have : (3 : Int32).toInt = 3 := by decide
            have : (4 : Int32).toInt = 4 := by decide
            rw [show ((3 : Int32).toInt).toNat = 3 from by decide] at iv2_14
            refine mv_iload d_TrustDeskModel_feed_30 rfl ?_
            refine mv_iconst (v := 4) d_TrustDeskModel_feed_32 (by decide) ?_
            refine mv_icmp_ge_f (tgt := 40) d_TrustDeskModel_feed_33 (by decide) (by decide) ?_
            refine mv_iload_n d_TrustDeskModel_feed_36 rfl rfl ?_
            refine mv_goto (tgt := 76) d_TrustDeskModel_feed_37 (by decide) ?_
            refine mv_istore (lv' := [(7, .int x1), (6, .int 3), (0, .ref o0), (1, .int x1), (2, .int x2), (3, .int x3), (4, .int x4), (5, .int x5)]) d_TrustDeskModel_feed_76 (by decide) rfl ?_
            refine mv_aload_n d_TrustDeskModel_feed_78 rfl rfl ?_
            obtain ⟨a92, q91, t_a92⟩ := tm_atR I_14 h_q0_14 (k := 13) rfl
            refine tr_getK q91 d_TrustDeskModel_feed_79 f_TrustDeskModel_44_13 ?_
            refine mv_aload_n d_TrustDeskModel_feed_82 rfl rfl ?_
            obtain ⟨v94, q93⟩ := tm_atI I_14 h_q0_14 (k := 14) rfl
            refine tr_getK q93 d_TrustDeskModel_feed_83 f_TrustDeskModel_189_13 ?_
            have := kKR_14.f (k := 14) q93 rfl
            have := tm_rv q93
            refine mv_iload d_TrustDeskModel_feed_86 rfl ?_
            refine mv_bipush (v := 24) d_TrustDeskModel_feed_88 (by decide) ?_
            refine mv_bipush (v := 8) d_TrustDeskModel_feed_90 (by decide) ?_
            refine mv_iload d_TrustDeskModel_feed_92 rfl ?_
            refine mv_iconst (v := 4) d_TrustDeskModel_feed_94 (by decide) ?_
            refine mv_iremv (v := 3) d_TrustDeskModel_feed_95 (by decide) (by decide) ?_
            refine mv_imulv (v := 24) d_TrustDeskModel_feed_96 (by decide) ?_
            refine mv_isubv (v := 0) d_TrustDeskModel_feed_97 (by decide) ?_
            refine mv_ishr d_TrustDeskModel_feed_98 ?_
            refine mv_i2b (v := (x1 >>> (0 &&& 31)).toInt8.toInt32) d_TrustDeskModel_feed_99 rfl ?_
            refine tr_bastE (k := 13) I_14 kKR_14 (I_14.up h_o0) q91 t_a92 (by decide) (by decide) (fun lo hi h => by cases h; exact mz_nar9 _) (Or.inl (by decide)) d_TrustDeskModel_feed_100 (vp_in_iff.mpr (by omega)) (fun M95 I96 K97 R98 E99 A100 V101 => ?_)
            have z102 := (V101 14)
            refine mv_aload_n d_TrustDeskModel_feed_101 rfl rfl ?_
            refine mv_dup d_TrustDeskModel_feed_102 rfl ?_
            refine tr_getK (k := 14) (K97 _ 13 14 _ q93) d_TrustDeskModel_feed_103 f_TrustDeskModel_189_13 ?_
            refine mv_iconst (v := 1) d_TrustDeskModel_feed_106 (by decide) ?_
            refine mv_iadd d_TrustDeskModel_feed_107 ?_
            obtain ⟨w103, h104, b105⟩ : ∃ w9 : Int32, (v94 + 1) = w9 ∧ w9.toInt = v94.toInt + 1 := ⟨_, rfl, mz_add2 rfl (by decide) (by omega) (by omega)⟩
            rw [h104]
            clear h104
            refine tr_putR (k := 14) I96 R98 h_q0_14 rfl ⟨_, rfl⟩ (fun _ h => by cases h) rfl (fun lo hi h => by cases h; have := R98.1 14 _ _ rfl; exact ⟨by show (0 : Int) ≤ w103.toInt; omega, by show w103.toInt ≤ (400 : Int); omega⟩) (Or.inl (by decide)) d_TrustDeskModel_feed_108 p_TrustDeskModel_189_13 rfl rfl (fun M106 I107 q108 K109 R110 A111 V112 => ?_)
            have z113 : rv M106 o0 14 = w103.toInt := tm_rv q108
            have X114 : pX M106 o0 (p_fk pb pn x1.toInt x2.toInt x3.toInt x4.toInt x5.toInt 4) (pn + 4) := iv2_14.put (u := (x1.toInt / 1 % 256)) (m := v94.toNatClampNeg) E99 (fun j => A111 13 (by decide) j) ((tm_rv q108).trans (by omega)) (by have := mz_nat9 (i := v94) (by omega); omega) (by omega) (by omega) (mz_sb0 x1)
            refine mv_iinc (v := 4) (lv' := [(6, .int 4), (7, .int x1), (0, .ref o0), (1, .int x1), (2, .int x2), (3, .int x3), (4, .int x4), (5, .int x5)]) d_TrustDeskModel_feed_111 rfl (by decide) (by decide) rfl ?_
            refine mv_goto (tgt := 23) d_TrustDeskModel_feed_114 (by decide) ?_
            have : (4 : Int32).toInt = 4 := by decide
            refine mv_locals (lv' := [(6, .int 4), (0, .ref o0), (1, .int x1), (2, .int x2), (3, .int x3), (4, .int x4), (5, .int x5)]) (by intro q hq; simp only [List.mem_cons, List.not_mem_nil, or_false] at hq; rcases hq with rfl | rfl | rfl | rfl | rfl | rfl | rfl <;> rfl) ?_
            exact (ih14 4 T_14 M106 n_14 I107 h_q0_14 (by have := R110.1 14 _ _ rfl; first | omega | decide | exact fun h9 => absurd (by decide) h9) (by have := R110.1 14 _ _ rfl; first | omega | decide | exact fun h9 => absurd (by decide) h9) (by rw [show ((4 : Int32).toInt).toNat = 4 from by decide]; exact X114) R110 (by have := R110.1 14 _ _ rfl; omega))
          · obtain rfl : i6_14 = (4 : Int32) := Int32.toInt_inj.mp (b18.trans (by decide))
            have : (4 : Int32).toInt = 4 := by decide
            have : (5 : Int32).toInt = 5 := by decide
            rw [show ((4 : Int32).toInt).toNat = 4 from by decide] at iv2_14
            refine mv_iload d_TrustDeskModel_feed_30 rfl ?_
            refine mv_iconst (v := 4) d_TrustDeskModel_feed_32 (by decide) ?_
            refine mv_icmp_ge_t (tgt := 40) d_TrustDeskModel_feed_33 (by decide) (by decide) ?_
            refine mv_iload d_TrustDeskModel_feed_40 rfl ?_
            refine mv_bipush (v := 8) d_TrustDeskModel_feed_42 (by decide) ?_
            refine mv_icmp_ge_f (tgt := 51) d_TrustDeskModel_feed_44 (by decide) (by decide) ?_
            refine mv_iload_n d_TrustDeskModel_feed_47 rfl rfl ?_
            refine mv_goto (tgt := 76) d_TrustDeskModel_feed_48 (by decide) ?_
            refine mv_istore (lv' := [(7, .int x2), (6, .int 4), (0, .ref o0), (1, .int x1), (2, .int x2), (3, .int x3), (4, .int x4), (5, .int x5)]) d_TrustDeskModel_feed_76 (by decide) rfl ?_
            refine mv_aload_n d_TrustDeskModel_feed_78 rfl rfl ?_
            obtain ⟨a116, q115, t_a116⟩ := tm_atR I_14 h_q0_14 (k := 13) rfl
            refine tr_getK q115 d_TrustDeskModel_feed_79 f_TrustDeskModel_44_13 ?_
            refine mv_aload_n d_TrustDeskModel_feed_82 rfl rfl ?_
            obtain ⟨v118, q117⟩ := tm_atI I_14 h_q0_14 (k := 14) rfl
            refine tr_getK q117 d_TrustDeskModel_feed_83 f_TrustDeskModel_189_13 ?_
            have := kKR_14.f (k := 14) q117 rfl
            have := tm_rv q117
            refine mv_iload d_TrustDeskModel_feed_86 rfl ?_
            refine mv_bipush (v := 24) d_TrustDeskModel_feed_88 (by decide) ?_
            refine mv_bipush (v := 8) d_TrustDeskModel_feed_90 (by decide) ?_
            refine mv_iload d_TrustDeskModel_feed_92 rfl ?_
            refine mv_iconst (v := 4) d_TrustDeskModel_feed_94 (by decide) ?_
            refine mv_iremv (v := 0) d_TrustDeskModel_feed_95 (by decide) (by decide) ?_
            refine mv_imulv (v := 0) d_TrustDeskModel_feed_96 (by decide) ?_
            refine mv_isubv (v := 24) d_TrustDeskModel_feed_97 (by decide) ?_
            refine mv_ishr d_TrustDeskModel_feed_98 ?_
            refine mv_i2b (v := (x2 >>> (24 &&& 31)).toInt8.toInt32) d_TrustDeskModel_feed_99 rfl ?_
            refine tr_bastE (k := 13) I_14 kKR_14 (I_14.up h_o0) q115 t_a116 (by decide) (by decide) (fun lo hi h => by cases h; exact mz_nar9 _) (Or.inl (by decide)) d_TrustDeskModel_feed_100 (vp_in_iff.mpr (by omega)) (fun M119 I120 K121 R122 E123 A124 V125 => ?_)
            have z126 := (V125 14)
            refine mv_aload_n d_TrustDeskModel_feed_101 rfl rfl ?_
            refine mv_dup d_TrustDeskModel_feed_102 rfl ?_
            refine tr_getK (k := 14) (K121 _ 13 14 _ q117) d_TrustDeskModel_feed_103 f_TrustDeskModel_189_13 ?_
            refine mv_iconst (v := 1) d_TrustDeskModel_feed_106 (by decide) ?_
            refine mv_iadd d_TrustDeskModel_feed_107 ?_
            obtain ⟨w127, h128, b129⟩ : ∃ w9 : Int32, (v118 + 1) = w9 ∧ w9.toInt = v118.toInt + 1 := ⟨_, rfl, mz_add2 rfl (by decide) (by omega) (by omega)⟩
            rw [h128]
            clear h128
            refine tr_putR (k := 14) I120 R122 h_q0_14 rfl ⟨_, rfl⟩ (fun _ h => by cases h) rfl (fun lo hi h => by cases h; have := R122.1 14 _ _ rfl; exact ⟨by show (0 : Int) ≤ w127.toInt; omega, by show w127.toInt ≤ (400 : Int); omega⟩) (Or.inl (by decide)) d_TrustDeskModel_feed_108 p_TrustDeskModel_189_13 rfl rfl (fun M130 I131 q132 K133 R134 A135 V136 => ?_)
            have z137 : rv M130 o0 14 = w127.toInt := tm_rv q132
            have X138 : pX M130 o0 (p_fk pb pn x1.toInt x2.toInt x3.toInt x4.toInt x5.toInt 5) (pn + 5) := iv2_14.put (u := (x2.toInt / 16777216 % 256)) (m := v118.toNatClampNeg) E123 (fun j => A135 13 (by decide) j) ((tm_rv q132).trans (by omega)) (by have := mz_nat9 (i := v118) (by omega); omega) (by omega) (by omega) (mz_sb24 x2)
            refine mv_iinc (v := 5) (lv' := [(6, .int 5), (7, .int x2), (0, .ref o0), (1, .int x1), (2, .int x2), (3, .int x3), (4, .int x4), (5, .int x5)]) d_TrustDeskModel_feed_111 rfl (by decide) (by decide) rfl ?_
            refine mv_goto (tgt := 23) d_TrustDeskModel_feed_114 (by decide) ?_
            have : (5 : Int32).toInt = 5 := by decide
            refine mv_locals (lv' := [(6, .int 5), (0, .ref o0), (1, .int x1), (2, .int x2), (3, .int x3), (4, .int x4), (5, .int x5)]) (by intro q hq; simp only [List.mem_cons, List.not_mem_nil, or_false] at hq; rcases hq with rfl | rfl | rfl | rfl | rfl | rfl | rfl <;> rfl) ?_
            exact (ih14 5 T_14 M130 n_14 I131 h_q0_14 (by have := R134.1 14 _ _ rfl; first | omega | decide | exact fun h9 => absurd (by decide) h9) (by have := R134.1 14 _ _ rfl; first | omega | decide | exact fun h9 => absurd (by decide) h9) (by rw [show ((5 : Int32).toInt).toNat = 5 from by decide]; exact X138) R134 (by have := R134.1 14 _ _ rfl; omega))
          · obtain rfl : i6_14 = (5 : Int32) := Int32.toInt_inj.mp (b18.trans (by decide))
            have : (5 : Int32).toInt = 5 := by decide
            have : (6 : Int32).toInt = 6 := by decide
            rw [show ((5 : Int32).toInt).toNat = 5 from by decide] at iv2_14
            refine mv_iload d_TrustDeskModel_feed_30 rfl ?_
            refine mv_iconst (v := 4) d_TrustDeskModel_feed_32 (by decide) ?_
            refine mv_icmp_ge_t (tgt := 40) d_TrustDeskModel_feed_33 (by decide) (by decide) ?_
            refine mv_iload d_TrustDeskModel_feed_40 rfl ?_
            refine mv_bipush (v := 8) d_TrustDeskModel_feed_42 (by decide) ?_
            refine mv_icmp_ge_f (tgt := 51) d_TrustDeskModel_feed_44 (by decide) (by decide) ?_
            refine mv_iload_n d_TrustDeskModel_feed_47 rfl rfl ?_
            refine mv_goto (tgt := 76) d_TrustDeskModel_feed_48 (by decide) ?_
            refine mv_istore (lv' := [(7, .int x2), (6, .int 5), (0, .ref o0), (1, .int x1), (2, .int x2), (3, .int x3), (4, .int x4), (5, .int x5)]) d_TrustDeskModel_feed_76 (by decide) rfl ?_
            refine mv_aload_n d_TrustDeskModel_feed_78 rfl rfl ?_
            obtain ⟨a140, q139, t_a140⟩ := tm_atR I_14 h_q0_14 (k := 13) rfl
            refine tr_getK q139 d_TrustDeskModel_feed_79 f_TrustDeskModel_44_13 ?_
            refine mv_aload_n d_TrustDeskModel_feed_82 rfl rfl ?_
            obtain ⟨v142, q141⟩ := tm_atI I_14 h_q0_14 (k := 14) rfl
            refine tr_getK q141 d_TrustDeskModel_feed_83 f_TrustDeskModel_189_13 ?_
            have := kKR_14.f (k := 14) q141 rfl
            have := tm_rv q141
            refine mv_iload d_TrustDeskModel_feed_86 rfl ?_
            refine mv_bipush (v := 24) d_TrustDeskModel_feed_88 (by decide) ?_
            refine mv_bipush (v := 8) d_TrustDeskModel_feed_90 (by decide) ?_
            refine mv_iload d_TrustDeskModel_feed_92 rfl ?_
            refine mv_iconst (v := 4) d_TrustDeskModel_feed_94 (by decide) ?_
            refine mv_iremv (v := 1) d_TrustDeskModel_feed_95 (by decide) (by decide) ?_
            refine mv_imulv (v := 8) d_TrustDeskModel_feed_96 (by decide) ?_
            refine mv_isubv (v := 16) d_TrustDeskModel_feed_97 (by decide) ?_
            refine mv_ishr d_TrustDeskModel_feed_98 ?_
            refine mv_i2b (v := (x2 >>> (16 &&& 31)).toInt8.toInt32) d_TrustDeskModel_feed_99 rfl ?_
            refine tr_bastE (k := 13) I_14 kKR_14 (I_14.up h_o0) q139 t_a140 (by decide) (by decide) (fun lo hi h => by cases h; exact mz_nar9 _) (Or.inl (by decide)) d_TrustDeskModel_feed_100 (vp_in_iff.mpr (by omega)) (fun M143 I144 K145 R146 E147 A148 V149 => ?_)
            have z150 := (V149 14)
            refine mv_aload_n d_TrustDeskModel_feed_101 rfl rfl ?_
            refine mv_dup d_TrustDeskModel_feed_102 rfl ?_
            refine tr_getK (k := 14) (K145 _ 13 14 _ q141) d_TrustDeskModel_feed_103 f_TrustDeskModel_189_13 ?_
            refine mv_iconst (v := 1) d_TrustDeskModel_feed_106 (by decide) ?_
            refine mv_iadd d_TrustDeskModel_feed_107 ?_
            obtain ⟨w151, h152, b153⟩ : ∃ w9 : Int32, (v142 + 1) = w9 ∧ w9.toInt = v142.toInt + 1 := ⟨_, rfl, mz_add2 rfl (by decide) (by omega) (by omega)⟩
            rw [h152]
            clear h152
            refine tr_putR (k := 14) I144 R146 h_q0_14 rfl ⟨_, rfl⟩ (fun _ h => by cases h) rfl (fun lo hi h => by cases h; have := R146.1 14 _ _ rfl; exact ⟨by show (0 : Int) ≤ w151.toInt; omega, by show w151.toInt ≤ (400 : Int); omega⟩) (Or.inl (by decide)) d_TrustDeskModel_feed_108 p_TrustDeskModel_189_13 rfl rfl (fun M154 I155 q156 K157 R158 A159 V160 => ?_)
            have z161 : rv M154 o0 14 = w151.toInt := tm_rv q156
            have X162 : pX M154 o0 (p_fk pb pn x1.toInt x2.toInt x3.toInt x4.toInt x5.toInt 6) (pn + 6) := iv2_14.put (u := (x2.toInt / 65536 % 256)) (m := v142.toNatClampNeg) E147 (fun j => A159 13 (by decide) j) ((tm_rv q156).trans (by omega)) (by have := mz_nat9 (i := v142) (by omega); omega) (by omega) (by omega) (mz_sb16 x2)
            refine mv_iinc (v := 6) (lv' := [(6, .int 6), (7, .int x2), (0, .ref o0), (1, .int x1), (2, .int x2), (3, .int x3), (4, .int x4), (5, .int x5)]) d_TrustDeskModel_feed_111 rfl (by decide) (by decide) rfl ?_
            refine mv_goto (tgt := 23) d_TrustDeskModel_feed_114 (by decide) ?_
            have : (6 : Int32).toInt = 6 := by decide
            refine mv_locals (lv' := [(6, .int 6), (0, .ref o0), (1, .int x1), (2, .int x2), (3, .int x3), (4, .int x4), (5, .int x5)]) (by intro q hq; simp only [List.mem_cons, List.not_mem_nil, or_false] at hq; rcases hq with rfl | rfl | rfl | rfl | rfl | rfl | rfl <;> rfl) ?_
            exact (ih14 6 T_14 M154 n_14 I155 h_q0_14 (by have := R158.1 14 _ _ rfl; first | omega | decide | exact fun h9 => absurd (by decide) h9) (by have := R158.1 14 _ _ rfl; first | omega | decide | exact fun h9 => absurd (by decide) h9) (by rw [show ((6 : Int32).toInt).toNat = 6 from by decide]; exact X162) R158 (by have := R158.1 14 _ _ rfl; omega))
          · obtain rfl : i6_14 = (6 : Int32) := Int32.toInt_inj.mp (b18.trans (by decide))
            have : (6 : Int32).toInt = 6 := by decide
            have : (7 : Int32).toInt = 7 := by decide
            rw [show ((6 : Int32).toInt).toNat = 6 from by decide] at iv2_14
            refine mv_iload d_TrustDeskModel_feed_30 rfl ?_
            refine mv_iconst (v := 4) d_TrustDeskModel_feed_32 (by decide) ?_
            refine mv_icmp_ge_t (tgt := 40) d_TrustDeskModel_feed_33 (by decide) (by decide) ?_
            refine mv_iload d_TrustDeskModel_feed_40 rfl ?_
            refine mv_bipush (v := 8) d_TrustDeskModel_feed_42 (by decide) ?_
            refine mv_icmp_ge_f (tgt := 51) d_TrustDeskModel_feed_44 (by decide) (by decide) ?_
            refine mv_iload_n d_TrustDeskModel_feed_47 rfl rfl ?_
            refine mv_goto (tgt := 76) d_TrustDeskModel_feed_48 (by decide) ?_
            refine mv_istore (lv' := [(7, .int x2), (6, .int 6), (0, .ref o0), (1, .int x1), (2, .int x2), (3, .int x3), (4, .int x4), (5, .int x5)]) d_TrustDeskModel_feed_76 (by decide) rfl ?_
            refine mv_aload_n d_TrustDeskModel_feed_78 rfl rfl ?_
            obtain ⟨a164, q163, t_a164⟩ := tm_atR I_14 h_q0_14 (k := 13) rfl
            refine tr_getK q163 d_TrustDeskModel_feed_79 f_TrustDeskModel_44_13 ?_
            refine mv_aload_n d_TrustDeskModel_feed_82 rfl rfl ?_
            obtain ⟨v166, q165⟩ := tm_atI I_14 h_q0_14 (k := 14) rfl
            refine tr_getK q165 d_TrustDeskModel_feed_83 f_TrustDeskModel_189_13 ?_
            have := kKR_14.f (k := 14) q165 rfl
            have := tm_rv q165
            refine mv_iload d_TrustDeskModel_feed_86 rfl ?_
            refine mv_bipush (v := 24) d_TrustDeskModel_feed_88 (by decide) ?_
            refine mv_bipush (v := 8) d_TrustDeskModel_feed_90 (by decide) ?_
            refine mv_iload d_TrustDeskModel_feed_92 rfl ?_
            refine mv_iconst (v := 4) d_TrustDeskModel_feed_94 (by decide) ?_
            refine mv_iremv (v := 2) d_TrustDeskModel_feed_95 (by decide) (by decide) ?_
            refine mv_imulv (v := 16) d_TrustDeskModel_feed_96 (by decide) ?_
            refine mv_isubv (v := 8) d_TrustDeskModel_feed_97 (by decide) ?_
            refine mv_ishr d_TrustDeskModel_feed_98 ?_
            refine mv_i2b (v := (x2 >>> (8 &&& 31)).toInt8.toInt32) d_TrustDeskModel_feed_99 rfl ?_
            refine tr_bastE (k := 13) I_14 kKR_14 (I_14.up h_o0) q163 t_a164 (by decide) (by decide) (fun lo hi h => by cases h; exact mz_nar9 _) (Or.inl (by decide)) d_TrustDeskModel_feed_100 (vp_in_iff.mpr (by omega)) (fun M167 I168 K169 R170 E171 A172 V173 => ?_)
            have z174 := (V173 14)
            refine mv_aload_n d_TrustDeskModel_feed_101 rfl rfl ?_
            refine mv_dup d_TrustDeskModel_feed_102 rfl ?_
            refine tr_getK (k := 14) (K169 _ 13 14 _ q165) d_TrustDeskModel_feed_103 f_TrustDeskModel_189_13 ?_
            refine mv_iconst (v := 1) d_TrustDeskModel_feed_106 (by decide) ?_
            refine mv_iadd d_TrustDeskModel_feed_107 ?_
            obtain ⟨w175, h176, b177⟩ : ∃ w9 : Int32, (v166 + 1) = w9 ∧ w9.toInt = v166.toInt + 1 := ⟨_, rfl, mz_add2 rfl (by decide) (by omega) (by omega)⟩
            rw [h176]
            clear h176
            refine tr_putR (k := 14) I168 R170 h_q0_14 rfl ⟨_, rfl⟩ (fun _ h => by cases h) rfl (fun lo hi h => by cases h; have := R170.1 14 _ _ rfl; exact ⟨by show (0 : Int) ≤ w175.toInt; omega, by show w175.toInt ≤ (400 : Int); omega⟩) (Or.inl (by decide)) d_TrustDeskModel_feed_108 p_TrustDeskModel_189_13 rfl rfl (fun M178 I179 q180 K181 R182 A183 V184 => ?_)
            have z185 : rv M178 o0 14 = w175.toInt := tm_rv q180
            have X186 : pX M178 o0 (p_fk pb pn x1.toInt x2.toInt x3.toInt x4.toInt x5.toInt 7) (pn + 7) := iv2_14.put (u := (x2.toInt / 256 % 256)) (m := v166.toNatClampNeg) E171 (fun j => A183 13 (by decide) j) ((tm_rv q180).trans (by omega)) (by have := mz_nat9 (i := v166) (by omega); omega) (by omega) (by omega) (mz_sb8 x2)
            refine mv_iinc (v := 7) (lv' := [(6, .int 7), (7, .int x2), (0, .ref o0), (1, .int x1), (2, .int x2), (3, .int x3), (4, .int x4), (5, .int x5)]) d_TrustDeskModel_feed_111 rfl (by decide) (by decide) rfl ?_
            refine mv_goto (tgt := 23) d_TrustDeskModel_feed_114 (by decide) ?_
            have : (7 : Int32).toInt = 7 := by decide
            refine mv_locals (lv' := [(6, .int 7), (0, .ref o0), (1, .int x1), (2, .int x2), (3, .int x3), (4, .int x4), (5, .int x5)]) (by intro q hq; simp only [List.mem_cons, List.not_mem_nil, or_false] at hq; rcases hq with rfl | rfl | rfl | rfl | rfl | rfl | rfl <;> rfl) ?_
            exact (ih14 7 T_14 M178 n_14 I179 h_q0_14 (by have := R182.1 14 _ _ rfl; first | omega | decide | exact fun h9 => absurd (by decide) h9) (by have := R182.1 14 _ _ rfl; first | omega | decide | exact fun h9 => absurd (by decide) h9) (by rw [show ((7 : Int32).toInt).toNat = 7 from by decide]; exact X186) R182 (by have := R182.1 14 _ _ rfl; omega))
          · obtain rfl : i6_14 = (7 : Int32) := Int32.toInt_inj.mp (b18.trans (by decide))
            have : (7 : Int32).toInt = 7 := by decide
            have : (8 : Int32).toInt = 8 := by decide
            rw [show ((7 : Int32).toInt).toNat = 7 from by decide] at iv2_14
            refine mv_iload d_TrustDeskModel_feed_30 rfl ?_
            refine mv_iconst (v := 4) d_TrustDeskModel_feed_32 (by decide) ?_
            refine mv_icmp_ge_t (tgt := 40) d_TrustDeskModel_feed_33 (by decide) (by decide) ?_
            refine mv_iload d_TrustDeskModel_feed_40 rfl ?_
            refine mv_bipush (v := 8) d_TrustDeskModel_feed_42 (by decide) ?_
            refine mv_icmp_ge_f (tgt := 51) d_TrustDeskModel_feed_44 (by decide) (by decide) ?_
            refine mv_iload_n d_TrustDeskModel_feed_47 rfl rfl ?_
            refine mv_goto (tgt := 76) d_TrustDeskModel_feed_48 (by decide) ?_
            refine mv_istore (lv' := [(7, .int x2), (6, .int 7), (0, .ref o0), (1, .int x1), (2, .int x2), (3, .int x3), (4, .int x4), (5, .int x5)]) d_TrustDeskModel_feed_76 (by decide) rfl ?_
            refine mv_aload_n d_TrustDeskModel_feed_78 rfl rfl ?_
            obtain ⟨a188, q187, t_a188⟩ := tm_atR I_14 h_q0_14 (k := 13) rfl
            refine tr_getK q187 d_TrustDeskModel_feed_79 f_TrustDeskModel_44_13 ?_
            refine mv_aload_n d_TrustDeskModel_feed_82 rfl rfl ?_
            obtain ⟨v190, q189⟩ := tm_atI I_14 h_q0_14 (k := 14) rfl
            refine tr_getK q189 d_TrustDeskModel_feed_83 f_TrustDeskModel_189_13 ?_
            have := kKR_14.f (k := 14) q189 rfl
            have := tm_rv q189
            refine mv_iload d_TrustDeskModel_feed_86 rfl ?_
            refine mv_bipush (v := 24) d_TrustDeskModel_feed_88 (by decide) ?_
            refine mv_bipush (v := 8) d_TrustDeskModel_feed_90 (by decide) ?_
            refine mv_iload d_TrustDeskModel_feed_92 rfl ?_
            refine mv_iconst (v := 4) d_TrustDeskModel_feed_94 (by decide) ?_
            refine mv_iremv (v := 3) d_TrustDeskModel_feed_95 (by decide) (by decide) ?_
            refine mv_imulv (v := 24) d_TrustDeskModel_feed_96 (by decide) ?_
            refine mv_isubv (v := 0) d_TrustDeskModel_feed_97 (by decide) ?_
            refine mv_ishr d_TrustDeskModel_feed_98 ?_
            refine mv_i2b (v := (x2 >>> (0 &&& 31)).toInt8.toInt32) d_TrustDeskModel_feed_99 rfl ?_
            refine tr_bastE (k := 13) I_14 kKR_14 (I_14.up h_o0) q187 t_a188 (by decide) (by decide) (fun lo hi h => by cases h; exact mz_nar9 _) (Or.inl (by decide)) d_TrustDeskModel_feed_100 (vp_in_iff.mpr (by omega)) (fun M191 I192 K193 R194 E195 A196 V197 => ?_)
            have z198 := (V197 14)
            refine mv_aload_n d_TrustDeskModel_feed_101 rfl rfl ?_
            refine mv_dup d_TrustDeskModel_feed_102 rfl ?_
            refine tr_getK (k := 14) (K193 _ 13 14 _ q189) d_TrustDeskModel_feed_103 f_TrustDeskModel_189_13 ?_
            refine mv_iconst (v := 1) d_TrustDeskModel_feed_106 (by decide) ?_
            refine mv_iadd d_TrustDeskModel_feed_107 ?_
            obtain ⟨w199, h200, b201⟩ : ∃ w9 : Int32, (v190 + 1) = w9 ∧ w9.toInt = v190.toInt + 1 := ⟨_, rfl, mz_add2 rfl (by decide) (by omega) (by omega)⟩
            rw [h200]
            clear h200
            refine tr_putR (k := 14) I192 R194 h_q0_14 rfl ⟨_, rfl⟩ (fun _ h => by cases h) rfl (fun lo hi h => by cases h; have := R194.1 14 _ _ rfl; exact ⟨by show (0 : Int) ≤ w199.toInt; omega, by show w199.toInt ≤ (400 : Int); omega⟩) (Or.inl (by decide)) d_TrustDeskModel_feed_108 p_TrustDeskModel_189_13 rfl rfl (fun M202 I203 q204 K205 R206 A207 V208 => ?_)
            have z209 : rv M202 o0 14 = w199.toInt := tm_rv q204
            have X210 : pX M202 o0 (p_fk pb pn x1.toInt x2.toInt x3.toInt x4.toInt x5.toInt 8) (pn + 8) := iv2_14.put (u := (x2.toInt / 1 % 256)) (m := v190.toNatClampNeg) E195 (fun j => A207 13 (by decide) j) ((tm_rv q204).trans (by omega)) (by have := mz_nat9 (i := v190) (by omega); omega) (by omega) (by omega) (mz_sb0 x2)
            refine mv_iinc (v := 8) (lv' := [(6, .int 8), (7, .int x2), (0, .ref o0), (1, .int x1), (2, .int x2), (3, .int x3), (4, .int x4), (5, .int x5)]) d_TrustDeskModel_feed_111 rfl (by decide) (by decide) rfl ?_
            refine mv_goto (tgt := 23) d_TrustDeskModel_feed_114 (by decide) ?_
            have : (8 : Int32).toInt = 8 := by decide
            refine mv_locals (lv' := [(6, .int 8), (0, .ref o0), (1, .int x1), (2, .int x2), (3, .int x3), (4, .int x4), (5, .int x5)]) (by intro q hq; simp only [List.mem_cons, List.not_mem_nil, or_false] at hq; rcases hq with rfl | rfl | rfl | rfl | rfl | rfl | rfl <;> rfl) ?_
            exact (ih14 8 T_14 M202 n_14 I203 h_q0_14 (by have := R206.1 14 _ _ rfl; first | omega | decide | exact fun h9 => absurd (by decide) h9) (by have := R206.1 14 _ _ rfl; first | omega | decide | exact fun h9 => absurd (by decide) h9) (by rw [show ((8 : Int32).toInt).toNat = 8 from by decide]; exact X210) R206 (by have := R206.1 14 _ _ rfl; omega))
          · obtain rfl : i6_14 = (8 : Int32) := Int32.toInt_inj.mp (b18.trans (by decide))
            have : (8 : Int32).toInt = 8 := by decide
            have : (9 : Int32).toInt = 9 := by decide
            rw [show ((8 : Int32).toInt).toNat = 8 from by decide] at iv2_14
            refine mv_iload d_TrustDeskModel_feed_30 rfl ?_
            refine mv_iconst (v := 4) d_TrustDeskModel_feed_32 (by decide) ?_
            refine mv_icmp_ge_t (tgt := 40) d_TrustDeskModel_feed_33 (by decide) (by decide) ?_
            refine mv_iload d_TrustDeskModel_feed_40 rfl ?_
            refine mv_bipush (v := 8) d_TrustDeskModel_feed_42 (by decide) ?_
            refine mv_icmp_ge_t (tgt := 51) d_TrustDeskModel_feed_44 (by decide) (by decide) ?_
            refine mv_iload d_TrustDeskModel_feed_51 rfl ?_
            refine mv_bipush (v := 12) d_TrustDeskModel_feed_53 (by decide) ?_
            refine mv_icmp_ge_f (tgt := 62) d_TrustDeskModel_feed_55 (by decide) (by decide) ?_
            refine mv_iload_n d_TrustDeskModel_feed_58 rfl rfl ?_
            refine mv_goto (tgt := 76) d_TrustDeskModel_feed_59 (by decide) ?_
            refine mv_istore (lv' := [(7, .int x3), (6, .int 8), (0, .ref o0), (1, .int x1), (2, .int x2), (3, .int x3), (4, .int x4), (5, .int x5)]) d_TrustDeskModel_feed_76 (by decide) rfl ?_
            refine mv_aload_n d_TrustDeskModel_feed_78 rfl rfl ?_
            obtain ⟨a212, q211, t_a212⟩ := tm_atR I_14 h_q0_14 (k := 13) rfl
            refine tr_getK q211 d_TrustDeskModel_feed_79 f_TrustDeskModel_44_13 ?_
            refine mv_aload_n d_TrustDeskModel_feed_82 rfl rfl ?_
            obtain ⟨v214, q213⟩ := tm_atI I_14 h_q0_14 (k := 14) rfl
            refine tr_getK q213 d_TrustDeskModel_feed_83 f_TrustDeskModel_189_13 ?_
            have := kKR_14.f (k := 14) q213 rfl
            have := tm_rv q213
            refine mv_iload d_TrustDeskModel_feed_86 rfl ?_
            refine mv_bipush (v := 24) d_TrustDeskModel_feed_88 (by decide) ?_
            refine mv_bipush (v := 8) d_TrustDeskModel_feed_90 (by decide) ?_
            refine mv_iload d_TrustDeskModel_feed_92 rfl ?_
            refine mv_iconst (v := 4) d_TrustDeskModel_feed_94 (by decide) ?_
            refine mv_iremv (v := 0) d_TrustDeskModel_feed_95 (by decide) (by decide) ?_
            refine mv_imulv (v := 0) d_TrustDeskModel_feed_96 (by decide) ?_
            refine mv_isubv (v := 24) d_TrustDeskModel_feed_97 (by decide) ?_
            refine mv_ishr d_TrustDeskModel_feed_98 ?_
            refine mv_i2b (v := (x3 >>> (24 &&& 31)).toInt8.toInt32) d_TrustDeskModel_feed_99 rfl ?_
            refine tr_bastE (k := 13) I_14 kKR_14 (I_14.up h_o0) q211 t_a212 (by decide) (by decide) (fun lo hi h => by cases h; exact mz_nar9 _) (Or.inl (by decide)) d_TrustDeskModel_feed_100 (vp_in_iff.mpr (by omega)) (fun M215 I216 K217 R218 E219 A220 V221 => ?_)
            have z222 := (V221 14)
            refine mv_aload_n d_TrustDeskModel_feed_101 rfl rfl ?_
            refine mv_dup d_TrustDeskModel_feed_102 rfl ?_
            refine tr_getK (k := 14) (K217 _ 13 14 _ q213) d_TrustDeskModel_feed_103 f_TrustDeskModel_189_13 ?_
            refine mv_iconst (v := 1) d_TrustDeskModel_feed_106 (by decide) ?_
            refine mv_iadd d_TrustDeskModel_feed_107 ?_
            obtain ⟨w223, h224, b225⟩ : ∃ w9 : Int32, (v214 + 1) = w9 ∧ w9.toInt = v214.toInt + 1 := ⟨_, rfl, mz_add2 rfl (by decide) (by omega) (by omega)⟩
            rw [h224]
            clear h224
            refine tr_putR (k := 14) I216 R218 h_q0_14 rfl ⟨_, rfl⟩ (fun _ h => by cases h) rfl (fun lo hi h => by cases h; have := R218.1 14 _ _ rfl; exact ⟨by show (0 : Int) ≤ w223.toInt; omega, by show w223.toInt ≤ (400 : Int); omega⟩) (Or.inl (by decide)) d_TrustDeskModel_feed_108 p_TrustDeskModel_189_13 rfl rfl (fun M226 I227 q228 K229 R230 A231 V232 => ?_)
            have z233 : rv M226 o0 14 = w223.toInt := tm_rv q228
            have X234 : pX M226 o0 (p_fk pb pn x1.toInt x2.toInt x3.toInt x4.toInt x5.toInt 9) (pn + 9) := iv2_14.put (u := (x3.toInt / 16777216 % 256)) (m := v214.toNatClampNeg) E219 (fun j => A231 13 (by decide) j) ((tm_rv q228).trans (by omega)) (by have := mz_nat9 (i := v214) (by omega); omega) (by omega) (by omega) (mz_sb24 x3)
            refine mv_iinc (v := 9) (lv' := [(6, .int 9), (7, .int x3), (0, .ref o0), (1, .int x1), (2, .int x2), (3, .int x3), (4, .int x4), (5, .int x5)]) d_TrustDeskModel_feed_111 rfl (by decide) (by decide) rfl ?_
            refine mv_goto (tgt := 23) d_TrustDeskModel_feed_114 (by decide) ?_
            have : (9 : Int32).toInt = 9 := by decide
            refine mv_locals (lv' := [(6, .int 9), (0, .ref o0), (1, .int x1), (2, .int x2), (3, .int x3), (4, .int x4), (5, .int x5)]) (by intro q hq; simp only [List.mem_cons, List.not_mem_nil, or_false] at hq; rcases hq with rfl | rfl | rfl | rfl | rfl | rfl | rfl <;> rfl) ?_
            exact (ih14 9 T_14 M226 n_14 I227 h_q0_14 (by have := R230.1 14 _ _ rfl; first | omega | decide | exact fun h9 => absurd (by decide) h9) (by have := R230.1 14 _ _ rfl; first | omega | decide | exact fun h9 => absurd (by decide) h9) (by rw [show ((9 : Int32).toInt).toNat = 9 from by decide]; exact X234) R230 (by have := R230.1 14 _ _ rfl; omega))
          · obtain rfl : i6_14 = (9 : Int32) := Int32.toInt_inj.mp (b18.trans (by decide))
            have : (9 : Int32).toInt = 9 := by decide
            have : (10 : Int32).toInt = 10 := by decide
            rw [show ((9 : Int32).toInt).toNat = 9 from by decide] at iv2_14
            refine mv_iload d_TrustDeskModel_feed_30 rfl ?_
            refine mv_iconst (v := 4) d_TrustDeskModel_feed_32 (by decide) ?_
            refine mv_icmp_ge_t (tgt := 40) d_TrustDeskModel_feed_33 (by decide) (by decide) ?_
            refine mv_iload d_TrustDeskModel_feed_40 rfl ?_
            refine mv_bipush (v := 8) d_TrustDeskModel_feed_42 (by decide) ?_
            refine mv_icmp_ge_t (tgt := 51) d_TrustDeskModel_feed_44 (by decide) (by decide) ?_
            refine mv_iload d_TrustDeskModel_feed_51 rfl ?_
            refine mv_bipush (v := 12) d_TrustDeskModel_feed_53 (by decide) ?_
            refine mv_icmp_ge_f (tgt := 62) d_TrustDeskModel_feed_55 (by decide) (by decide) ?_
            refine mv_iload_n d_TrustDeskModel_feed_58 rfl rfl ?_
            refine mv_goto (tgt := 76) d_TrustDeskModel_feed_59 (by decide) ?_
            refine mv_istore (lv' := [(7, .int x3), (6, .int 9), (0, .ref o0), (1, .int x1), (2, .int x2), (3, .int x3), (4, .int x4), (5, .int x5)]) d_TrustDeskModel_feed_76 (by decide) rfl ?_
            refine mv_aload_n d_TrustDeskModel_feed_78 rfl rfl ?_
            obtain ⟨a236, q235, t_a236⟩ := tm_atR I_14 h_q0_14 (k := 13) rfl
            refine tr_getK q235 d_TrustDeskModel_feed_79 f_TrustDeskModel_44_13 ?_
            refine mv_aload_n d_TrustDeskModel_feed_82 rfl rfl ?_
            obtain ⟨v238, q237⟩ := tm_atI I_14 h_q0_14 (k := 14) rfl
            refine tr_getK q237 d_TrustDeskModel_feed_83 f_TrustDeskModel_189_13 ?_
            have := kKR_14.f (k := 14) q237 rfl
            have := tm_rv q237
            refine mv_iload d_TrustDeskModel_feed_86 rfl ?_
            refine mv_bipush (v := 24) d_TrustDeskModel_feed_88 (by decide) ?_
            refine mv_bipush (v := 8) d_TrustDeskModel_feed_90 (by decide) ?_
            refine mv_iload d_TrustDeskModel_feed_92 rfl ?_
            refine mv_iconst (v := 4) d_TrustDeskModel_feed_94 (by decide) ?_
            refine mv_iremv (v := 1) d_TrustDeskModel_feed_95 (by decide) (by decide) ?_
            refine mv_imulv (v := 8) d_TrustDeskModel_feed_96 (by decide) ?_
            refine mv_isubv (v := 16) d_TrustDeskModel_feed_97 (by decide) ?_
            refine mv_ishr d_TrustDeskModel_feed_98 ?_
            refine mv_i2b (v := (x3 >>> (16 &&& 31)).toInt8.toInt32) d_TrustDeskModel_feed_99 rfl ?_
            refine tr_bastE (k := 13) I_14 kKR_14 (I_14.up h_o0) q235 t_a236 (by decide) (by decide) (fun lo hi h => by cases h; exact mz_nar9 _) (Or.inl (by decide)) d_TrustDeskModel_feed_100 (vp_in_iff.mpr (by omega)) (fun M239 I240 K241 R242 E243 A244 V245 => ?_)
            have z246 := (V245 14)
            refine mv_aload_n d_TrustDeskModel_feed_101 rfl rfl ?_
            refine mv_dup d_TrustDeskModel_feed_102 rfl ?_
            refine tr_getK (k := 14) (K241 _ 13 14 _ q237) d_TrustDeskModel_feed_103 f_TrustDeskModel_189_13 ?_
            refine mv_iconst (v := 1) d_TrustDeskModel_feed_106 (by decide) ?_
            refine mv_iadd d_TrustDeskModel_feed_107 ?_
            obtain ⟨w247, h248, b249⟩ : ∃ w9 : Int32, (v238 + 1) = w9 ∧ w9.toInt = v238.toInt + 1 := ⟨_, rfl, mz_add2 rfl (by decide) (by omega) (by omega)⟩
            rw [h248]
            clear h248
            refine tr_putR (k := 14) I240 R242 h_q0_14 rfl ⟨_, rfl⟩ (fun _ h => by cases h) rfl (fun lo hi h => by cases h; have := R242.1 14 _ _ rfl; exact ⟨by show (0 : Int) ≤ w247.toInt; omega, by show w247.toInt ≤ (400 : Int); omega⟩) (Or.inl (by decide)) d_TrustDeskModel_feed_108 p_TrustDeskModel_189_13 rfl rfl (fun M250 I251 q252 K253 R254 A255 V256 => ?_)
            have z257 : rv M250 o0 14 = w247.toInt := tm_rv q252
            have X258 : pX M250 o0 (p_fk pb pn x1.toInt x2.toInt x3.toInt x4.toInt x5.toInt 10) (pn + 10) := iv2_14.put (u := (x3.toInt / 65536 % 256)) (m := v238.toNatClampNeg) E243 (fun j => A255 13 (by decide) j) ((tm_rv q252).trans (by omega)) (by have := mz_nat9 (i := v238) (by omega); omega) (by omega) (by omega) (mz_sb16 x3)
            refine mv_iinc (v := 10) (lv' := [(6, .int 10), (7, .int x3), (0, .ref o0), (1, .int x1), (2, .int x2), (3, .int x3), (4, .int x4), (5, .int x5)]) d_TrustDeskModel_feed_111 rfl (by decide) (by decide) rfl ?_
            refine mv_goto (tgt := 23) d_TrustDeskModel_feed_114 (by decide) ?_
            have : (10 : Int32).toInt = 10 := by decide
            refine mv_locals (lv' := [(6, .int 10), (0, .ref o0), (1, .int x1), (2, .int x2), (3, .int x3), (4, .int x4), (5, .int x5)]) (by intro q hq; simp only [List.mem_cons, List.not_mem_nil, or_false] at hq; rcases hq with rfl | rfl | rfl | rfl | rfl | rfl | rfl <;> rfl) ?_
            exact (ih14 10 T_14 M250 n_14 I251 h_q0_14 (by have := R254.1 14 _ _ rfl; first | omega | decide | exact fun h9 => absurd (by decide) h9) (by have := R254.1 14 _ _ rfl; first | omega | decide | exact fun h9 => absurd (by decide) h9) (by rw [show ((10 : Int32).toInt).toNat = 10 from by decide]; exact X258) R254 (by have := R254.1 14 _ _ rfl; omega))
          · obtain rfl : i6_14 = (10 : Int32) := Int32.toInt_inj.mp (b18.trans (by decide))
            have : (10 : Int32).toInt = 10 := by decide
            have : (11 : Int32).toInt = 11 := by decide
            rw [show ((10 : Int32).toInt).toNat = 10 from by decide] at iv2_14
            refine mv_iload d_TrustDeskModel_feed_30 rfl ?_
            refine mv_iconst (v := 4) d_TrustDeskModel_feed_32 (by decide) ?_
            refine mv_icmp_ge_t (tgt := 40) d_TrustDeskModel_feed_33 (by decide) (by decide) ?_
            refine mv_iload d_TrustDeskModel_feed_40 rfl ?_
            refine mv_bipush (v := 8) d_TrustDeskModel_feed_42 (by decide) ?_
            refine mv_icmp_ge_t (tgt := 51) d_TrustDeskModel_feed_44 (by decide) (by decide) ?_
            refine mv_iload d_TrustDeskModel_feed_51 rfl ?_
            refine mv_bipush (v := 12) d_TrustDeskModel_feed_53 (by decide) ?_
            refine mv_icmp_ge_f (tgt := 62) d_TrustDeskModel_feed_55 (by decide) (by decide) ?_
            refine mv_iload_n d_TrustDeskModel_feed_58 rfl rfl ?_
            refine mv_goto (tgt := 76) d_TrustDeskModel_feed_59 (by decide) ?_
            refine mv_istore (lv' := [(7, .int x3), (6, .int 10), (0, .ref o0), (1, .int x1), (2, .int x2), (3, .int x3), (4, .int x4), (5, .int x5)]) d_TrustDeskModel_feed_76 (by decide) rfl ?_
            refine mv_aload_n d_TrustDeskModel_feed_78 rfl rfl ?_
            obtain ⟨a260, q259, t_a260⟩ := tm_atR I_14 h_q0_14 (k := 13) rfl
            refine tr_getK q259 d_TrustDeskModel_feed_79 f_TrustDeskModel_44_13 ?_
            refine mv_aload_n d_TrustDeskModel_feed_82 rfl rfl ?_
            obtain ⟨v262, q261⟩ := tm_atI I_14 h_q0_14 (k := 14) rfl
            refine tr_getK q261 d_TrustDeskModel_feed_83 f_TrustDeskModel_189_13 ?_
            have := kKR_14.f (k := 14) q261 rfl
            have := tm_rv q261
            refine mv_iload d_TrustDeskModel_feed_86 rfl ?_
            refine mv_bipush (v := 24) d_TrustDeskModel_feed_88 (by decide) ?_
            refine mv_bipush (v := 8) d_TrustDeskModel_feed_90 (by decide) ?_
            refine mv_iload d_TrustDeskModel_feed_92 rfl ?_
            refine mv_iconst (v := 4) d_TrustDeskModel_feed_94 (by decide) ?_
            refine mv_iremv (v := 2) d_TrustDeskModel_feed_95 (by decide) (by decide) ?_
            refine mv_imulv (v := 16) d_TrustDeskModel_feed_96 (by decide) ?_
            refine mv_isubv (v := 8) d_TrustDeskModel_feed_97 (by decide) ?_
            refine mv_ishr d_TrustDeskModel_feed_98 ?_
            refine mv_i2b (v := (x3 >>> (8 &&& 31)).toInt8.toInt32) d_TrustDeskModel_feed_99 rfl ?_
            refine tr_bastE (k := 13) I_14 kKR_14 (I_14.up h_o0) q259 t_a260 (by decide) (by decide) (fun lo hi h => by cases h; exact mz_nar9 _) (Or.inl (by decide)) d_TrustDeskModel_feed_100 (vp_in_iff.mpr (by omega)) (fun M263 I264 K265 R266 E267 A268 V269 => ?_)
            have z270 := (V269 14)
            refine mv_aload_n d_TrustDeskModel_feed_101 rfl rfl ?_
            refine mv_dup d_TrustDeskModel_feed_102 rfl ?_
            refine tr_getK (k := 14) (K265 _ 13 14 _ q261) d_TrustDeskModel_feed_103 f_TrustDeskModel_189_13 ?_
            refine mv_iconst (v := 1) d_TrustDeskModel_feed_106 (by decide) ?_
            refine mv_iadd d_TrustDeskModel_feed_107 ?_
            obtain ⟨w271, h272, b273⟩ : ∃ w9 : Int32, (v262 + 1) = w9 ∧ w9.toInt = v262.toInt + 1 := ⟨_, rfl, mz_add2 rfl (by decide) (by omega) (by omega)⟩
            rw [h272]
            clear h272
            refine tr_putR (k := 14) I264 R266 h_q0_14 rfl ⟨_, rfl⟩ (fun _ h => by cases h) rfl (fun lo hi h => by cases h; have := R266.1 14 _ _ rfl; exact ⟨by show (0 : Int) ≤ w271.toInt; omega, by show w271.toInt ≤ (400 : Int); omega⟩) (Or.inl (by decide)) d_TrustDeskModel_feed_108 p_TrustDeskModel_189_13 rfl rfl (fun M274 I275 q276 K277 R278 A279 V280 => ?_)
            have z281 : rv M274 o0 14 = w271.toInt := tm_rv q276
            have X282 : pX M274 o0 (p_fk pb pn x1.toInt x2.toInt x3.toInt x4.toInt x5.toInt 11) (pn + 11) := iv2_14.put (u := (x3.toInt / 256 % 256)) (m := v262.toNatClampNeg) E267 (fun j => A279 13 (by decide) j) ((tm_rv q276).trans (by omega)) (by have := mz_nat9 (i := v262) (by omega); omega) (by omega) (by omega) (mz_sb8 x3)
            refine mv_iinc (v := 11) (lv' := [(6, .int 11), (7, .int x3), (0, .ref o0), (1, .int x1), (2, .int x2), (3, .int x3), (4, .int x4), (5, .int x5)]) d_TrustDeskModel_feed_111 rfl (by decide) (by decide) rfl ?_
            refine mv_goto (tgt := 23) d_TrustDeskModel_feed_114 (by decide) ?_
            have : (11 : Int32).toInt = 11 := by decide
            refine mv_locals (lv' := [(6, .int 11), (0, .ref o0), (1, .int x1), (2, .int x2), (3, .int x3), (4, .int x4), (5, .int x5)]) (by intro q hq; simp only [List.mem_cons, List.not_mem_nil, or_false] at hq; rcases hq with rfl | rfl | rfl | rfl | rfl | rfl | rfl <;> rfl) ?_
            exact (ih14 11 T_14 M274 n_14 I275 h_q0_14 (by have := R278.1 14 _ _ rfl; first | omega | decide | exact fun h9 => absurd (by decide) h9) (by have := R278.1 14 _ _ rfl; first | omega | decide | exact fun h9 => absurd (by decide) h9) (by rw [show ((11 : Int32).toInt).toNat = 11 from by decide]; exact X282) R278 (by have := R278.1 14 _ _ rfl; omega))
          · obtain rfl : i6_14 = (11 : Int32) := Int32.toInt_inj.mp (b18.trans (by decide))
            have : (11 : Int32).toInt = 11 := by decide
            have : (12 : Int32).toInt = 12 := by decide
            rw [show ((11 : Int32).toInt).toNat = 11 from by decide] at iv2_14
            refine mv_iload d_TrustDeskModel_feed_30 rfl ?_
            refine mv_iconst (v := 4) d_TrustDeskModel_feed_32 (by decide) ?_
            refine mv_icmp_ge_t (tgt := 40) d_TrustDeskModel_feed_33 (by decide) (by decide) ?_
            refine mv_iload d_TrustDeskModel_feed_40 rfl ?_
            refine mv_bipush (v := 8) d_TrustDeskModel_feed_42 (by decide) ?_
            refine mv_icmp_ge_t (tgt := 51) d_TrustDeskModel_feed_44 (by decide) (by decide) ?_
            refine mv_iload d_TrustDeskModel_feed_51 rfl ?_
            refine mv_bipush (v := 12) d_TrustDeskModel_feed_53 (by decide) ?_
            refine mv_icmp_ge_f (tgt := 62) d_TrustDeskModel_feed_55 (by decide) (by decide) ?_
            refine mv_iload_n d_TrustDeskModel_feed_58 rfl rfl ?_
            refine mv_goto (tgt := 76) d_TrustDeskModel_feed_59 (by decide) ?_
            refine mv_istore (lv' := [(7, .int x3), (6, .int 11), (0, .ref o0), (1, .int x1), (2, .int x2), (3, .int x3), (4, .int x4), (5, .int x5)]) d_TrustDeskModel_feed_76 (by decide) rfl ?_
            refine mv_aload_n d_TrustDeskModel_feed_78 rfl rfl ?_
            obtain ⟨a284, q283, t_a284⟩ := tm_atR I_14 h_q0_14 (k := 13) rfl
            refine tr_getK q283 d_TrustDeskModel_feed_79 f_TrustDeskModel_44_13 ?_
            refine mv_aload_n d_TrustDeskModel_feed_82 rfl rfl ?_
            obtain ⟨v286, q285⟩ := tm_atI I_14 h_q0_14 (k := 14) rfl
            refine tr_getK q285 d_TrustDeskModel_feed_83 f_TrustDeskModel_189_13 ?_
            have := kKR_14.f (k := 14) q285 rfl
            have := tm_rv q285
            refine mv_iload d_TrustDeskModel_feed_86 rfl ?_
            refine mv_bipush (v := 24) d_TrustDeskModel_feed_88 (by decide) ?_
            refine mv_bipush (v := 8) d_TrustDeskModel_feed_90 (by decide) ?_
            refine mv_iload d_TrustDeskModel_feed_92 rfl ?_
            refine mv_iconst (v := 4) d_TrustDeskModel_feed_94 (by decide) ?_
            refine mv_iremv (v := 3) d_TrustDeskModel_feed_95 (by decide) (by decide) ?_
            refine mv_imulv (v := 24) d_TrustDeskModel_feed_96 (by decide) ?_
            refine mv_isubv (v := 0) d_TrustDeskModel_feed_97 (by decide) ?_
            refine mv_ishr d_TrustDeskModel_feed_98 ?_
            refine mv_i2b (v := (x3 >>> (0 &&& 31)).toInt8.toInt32) d_TrustDeskModel_feed_99 rfl ?_
            refine tr_bastE (k := 13) I_14 kKR_14 (I_14.up h_o0) q283 t_a284 (by decide) (by decide) (fun lo hi h => by cases h; exact mz_nar9 _) (Or.inl (by decide)) d_TrustDeskModel_feed_100 (vp_in_iff.mpr (by omega)) (fun M287 I288 K289 R290 E291 A292 V293 => ?_)
            have z294 := (V293 14)
            refine mv_aload_n d_TrustDeskModel_feed_101 rfl rfl ?_
            refine mv_dup d_TrustDeskModel_feed_102 rfl ?_
            refine tr_getK (k := 14) (K289 _ 13 14 _ q285) d_TrustDeskModel_feed_103 f_TrustDeskModel_189_13 ?_
            refine mv_iconst (v := 1) d_TrustDeskModel_feed_106 (by decide) ?_
            refine mv_iadd d_TrustDeskModel_feed_107 ?_
            obtain ⟨w295, h296, b297⟩ : ∃ w9 : Int32, (v286 + 1) = w9 ∧ w9.toInt = v286.toInt + 1 := ⟨_, rfl, mz_add2 rfl (by decide) (by omega) (by omega)⟩
            rw [h296]
            clear h296
            refine tr_putR (k := 14) I288 R290 h_q0_14 rfl ⟨_, rfl⟩ (fun _ h => by cases h) rfl (fun lo hi h => by cases h; have := R290.1 14 _ _ rfl; exact ⟨by show (0 : Int) ≤ w295.toInt; omega, by show w295.toInt ≤ (400 : Int); omega⟩) (Or.inl (by decide)) d_TrustDeskModel_feed_108 p_TrustDeskModel_189_13 rfl rfl (fun M298 I299 q300 K301 R302 A303 V304 => ?_)
            have z305 : rv M298 o0 14 = w295.toInt := tm_rv q300
            have X306 : pX M298 o0 (p_fk pb pn x1.toInt x2.toInt x3.toInt x4.toInt x5.toInt 12) (pn + 12) := iv2_14.put (u := (x3.toInt / 1 % 256)) (m := v286.toNatClampNeg) E291 (fun j => A303 13 (by decide) j) ((tm_rv q300).trans (by omega)) (by have := mz_nat9 (i := v286) (by omega); omega) (by omega) (by omega) (mz_sb0 x3)
            refine mv_iinc (v := 12) (lv' := [(6, .int 12), (7, .int x3), (0, .ref o0), (1, .int x1), (2, .int x2), (3, .int x3), (4, .int x4), (5, .int x5)]) d_TrustDeskModel_feed_111 rfl (by decide) (by decide) rfl ?_
            refine mv_goto (tgt := 23) d_TrustDeskModel_feed_114 (by decide) ?_
            have : (12 : Int32).toInt = 12 := by decide
            refine mv_locals (lv' := [(6, .int 12), (0, .ref o0), (1, .int x1), (2, .int x2), (3, .int x3), (4, .int x4), (5, .int x5)]) (by intro q hq; simp only [List.mem_cons, List.not_mem_nil, or_false] at hq; rcases hq with rfl | rfl | rfl | rfl | rfl | rfl | rfl <;> rfl) ?_
            exact (ih14 12 T_14 M298 n_14 I299 h_q0_14 (by have := R302.1 14 _ _ rfl; first | omega | decide | exact fun h9 => absurd (by decide) h9) (by have := R302.1 14 _ _ rfl; first | omega | decide | exact fun h9 => absurd (by decide) h9) (by rw [show ((12 : Int32).toInt).toNat = 12 from by decide]; exact X306) R302 (by have := R302.1 14 _ _ rfl; omega))
          · obtain rfl : i6_14 = (12 : Int32) := Int32.toInt_inj.mp (b18.trans (by decide))
            have : (12 : Int32).toInt = 12 := by decide
            have : (13 : Int32).toInt = 13 := by decide
            rw [show ((12 : Int32).toInt).toNat = 12 from by decide] at iv2_14
            refine mv_iload d_TrustDeskModel_feed_30 rfl ?_
            refine mv_iconst (v := 4) d_TrustDeskModel_feed_32 (by decide) ?_
            refine mv_icmp_ge_t (tgt := 40) d_TrustDeskModel_feed_33 (by decide) (by decide) ?_
            refine mv_iload d_TrustDeskModel_feed_40 rfl ?_
            refine mv_bipush (v := 8) d_TrustDeskModel_feed_42 (by decide) ?_
            refine mv_icmp_ge_t (tgt := 51) d_TrustDeskModel_feed_44 (by decide) (by decide) ?_
            refine mv_iload d_TrustDeskModel_feed_51 rfl ?_
            refine mv_bipush (v := 12) d_TrustDeskModel_feed_53 (by decide) ?_
            refine mv_icmp_ge_t (tgt := 62) d_TrustDeskModel_feed_55 (by decide) (by decide) ?_
            refine mv_iload d_TrustDeskModel_feed_62 rfl ?_
            refine mv_bipush (v := 16) d_TrustDeskModel_feed_64 (by decide) ?_
            refine mv_icmp_ge_f (tgt := 74) d_TrustDeskModel_feed_66 (by decide) (by decide) ?_
            refine mv_iload d_TrustDeskModel_feed_69 rfl ?_
            refine mv_goto (tgt := 76) d_TrustDeskModel_feed_71 (by decide) ?_
            refine mv_istore (lv' := [(7, .int x4), (6, .int 12), (0, .ref o0), (1, .int x1), (2, .int x2), (3, .int x3), (4, .int x4), (5, .int x5)]) d_TrustDeskModel_feed_76 (by decide) rfl ?_
            refine mv_aload_n d_TrustDeskModel_feed_78 rfl rfl ?_
            obtain ⟨a308, q307, t_a308⟩ := tm_atR I_14 h_q0_14 (k := 13) rfl
            refine tr_getK q307 d_TrustDeskModel_feed_79 f_TrustDeskModel_44_13 ?_
            refine mv_aload_n d_TrustDeskModel_feed_82 rfl rfl ?_
            obtain ⟨v310, q309⟩ := tm_atI I_14 h_q0_14 (k := 14) rfl
            refine tr_getK q309 d_TrustDeskModel_feed_83 f_TrustDeskModel_189_13 ?_
            have := kKR_14.f (k := 14) q309 rfl
            have := tm_rv q309
            refine mv_iload d_TrustDeskModel_feed_86 rfl ?_
            refine mv_bipush (v := 24) d_TrustDeskModel_feed_88 (by decide) ?_
            refine mv_bipush (v := 8) d_TrustDeskModel_feed_90 (by decide) ?_
            refine mv_iload d_TrustDeskModel_feed_92 rfl ?_
            refine mv_iconst (v := 4) d_TrustDeskModel_feed_94 (by decide) ?_
            refine mv_iremv (v := 0) d_TrustDeskModel_feed_95 (by decide) (by decide) ?_
            refine mv_imulv (v := 0) d_TrustDeskModel_feed_96 (by decide) ?_
            refine mv_isubv (v := 24) d_TrustDeskModel_feed_97 (by decide) ?_
            refine mv_ishr d_TrustDeskModel_feed_98 ?_
            refine mv_i2b (v := (x4 >>> (24 &&& 31)).toInt8.toInt32) d_TrustDeskModel_feed_99 rfl ?_
            refine tr_bastE (k := 13) I_14 kKR_14 (I_14.up h_o0) q307 t_a308 (by decide) (by decide) (fun lo hi h => by cases h; exact mz_nar9 _) (Or.inl (by decide)) d_TrustDeskModel_feed_100 (vp_in_iff.mpr (by omega)) (fun M311 I312 K313 R314 E315 A316 V317 => ?_)
            have z318 := (V317 14)
            refine mv_aload_n d_TrustDeskModel_feed_101 rfl rfl ?_
            refine mv_dup d_TrustDeskModel_feed_102 rfl ?_
            refine tr_getK (k := 14) (K313 _ 13 14 _ q309) d_TrustDeskModel_feed_103 f_TrustDeskModel_189_13 ?_
            refine mv_iconst (v := 1) d_TrustDeskModel_feed_106 (by decide) ?_
            refine mv_iadd d_TrustDeskModel_feed_107 ?_
            obtain ⟨w319, h320, b321⟩ : ∃ w9 : Int32, (v310 + 1) = w9 ∧ w9.toInt = v310.toInt + 1 := ⟨_, rfl, mz_add2 rfl (by decide) (by omega) (by omega)⟩
            rw [h320]
            clear h320
            refine tr_putR (k := 14) I312 R314 h_q0_14 rfl ⟨_, rfl⟩ (fun _ h => by cases h) rfl (fun lo hi h => by cases h; have := R314.1 14 _ _ rfl; exact ⟨by show (0 : Int) ≤ w319.toInt; omega, by show w319.toInt ≤ (400 : Int); omega⟩) (Or.inl (by decide)) d_TrustDeskModel_feed_108 p_TrustDeskModel_189_13 rfl rfl (fun M322 I323 q324 K325 R326 A327 V328 => ?_)
            have z329 : rv M322 o0 14 = w319.toInt := tm_rv q324
            have X330 : pX M322 o0 (p_fk pb pn x1.toInt x2.toInt x3.toInt x4.toInt x5.toInt 13) (pn + 13) := iv2_14.put (u := (x4.toInt / 16777216 % 256)) (m := v310.toNatClampNeg) E315 (fun j => A327 13 (by decide) j) ((tm_rv q324).trans (by omega)) (by have := mz_nat9 (i := v310) (by omega); omega) (by omega) (by omega) (mz_sb24 x4)
            refine mv_iinc (v := 13) (lv' := [(6, .int 13), (7, .int x4), (0, .ref o0), (1, .int x1), (2, .int x2), (3, .int x3), (4, .int x4), (5, .int x5)]) d_TrustDeskModel_feed_111 rfl (by decide) (by decide) rfl ?_
            refine mv_goto (tgt := 23) d_TrustDeskModel_feed_114 (by decide) ?_
            have : (13 : Int32).toInt = 13 := by decide
            refine mv_locals (lv' := [(6, .int 13), (0, .ref o0), (1, .int x1), (2, .int x2), (3, .int x3), (4, .int x4), (5, .int x5)]) (by intro q hq; simp only [List.mem_cons, List.not_mem_nil, or_false] at hq; rcases hq with rfl | rfl | rfl | rfl | rfl | rfl | rfl <;> rfl) ?_
            exact (ih14 13 T_14 M322 n_14 I323 h_q0_14 (by have := R326.1 14 _ _ rfl; first | omega | decide | exact fun h9 => absurd (by decide) h9) (by have := R326.1 14 _ _ rfl; first | omega | decide | exact fun h9 => absurd (by decide) h9) (by rw [show ((13 : Int32).toInt).toNat = 13 from by decide]; exact X330) R326 (by have := R326.1 14 _ _ rfl; omega))
          · obtain rfl : i6_14 = (13 : Int32) := Int32.toInt_inj.mp (b18.trans (by decide))
            have : (13 : Int32).toInt = 13 := by decide
            have : (14 : Int32).toInt = 14 := by decide
            rw [show ((13 : Int32).toInt).toNat = 13 from by decide] at iv2_14
            refine mv_iload d_TrustDeskModel_feed_30 rfl ?_
            refine mv_iconst (v := 4) d_TrustDeskModel_feed_32 (by decide) ?_
            refine mv_icmp_ge_t (tgt := 40) d_TrustDeskModel_feed_33 (by decide) (by decide) ?_
            refine mv_iload d_TrustDeskModel_feed_40 rfl ?_
            refine mv_bipush (v := 8) d_TrustDeskModel_feed_42 (by decide) ?_
            refine mv_icmp_ge_t (tgt := 51) d_TrustDeskModel_feed_44 (by decide) (by decide) ?_
            refine mv_iload d_TrustDeskModel_feed_51 rfl ?_
            refine mv_bipush (v := 12) d_TrustDeskModel_feed_53 (by decide) ?_
            refine mv_icmp_ge_t (tgt := 62) d_TrustDeskModel_feed_55 (by decide) (by decide) ?_
            refine mv_iload d_TrustDeskModel_feed_62 rfl ?_
            refine mv_bipush (v := 16) d_TrustDeskModel_feed_64 (by decide) ?_
            refine mv_icmp_ge_f (tgt := 74) d_TrustDeskModel_feed_66 (by decide) (by decide) ?_
            refine mv_iload d_TrustDeskModel_feed_69 rfl ?_
            refine mv_goto (tgt := 76) d_TrustDeskModel_feed_71 (by decide) ?_
            refine mv_istore (lv' := [(7, .int x4), (6, .int 13), (0, .ref o0), (1, .int x1), (2, .int x2), (3, .int x3), (4, .int x4), (5, .int x5)]) d_TrustDeskModel_feed_76 (by decide) rfl ?_
            refine mv_aload_n d_TrustDeskModel_feed_78 rfl rfl ?_
            obtain ⟨a332, q331, t_a332⟩ := tm_atR I_14 h_q0_14 (k := 13) rfl
            refine tr_getK q331 d_TrustDeskModel_feed_79 f_TrustDeskModel_44_13 ?_
            refine mv_aload_n d_TrustDeskModel_feed_82 rfl rfl ?_
            obtain ⟨v334, q333⟩ := tm_atI I_14 h_q0_14 (k := 14) rfl
            refine tr_getK q333 d_TrustDeskModel_feed_83 f_TrustDeskModel_189_13 ?_
            have := kKR_14.f (k := 14) q333 rfl
            have := tm_rv q333
            refine mv_iload d_TrustDeskModel_feed_86 rfl ?_
            refine mv_bipush (v := 24) d_TrustDeskModel_feed_88 (by decide) ?_
            refine mv_bipush (v := 8) d_TrustDeskModel_feed_90 (by decide) ?_
            refine mv_iload d_TrustDeskModel_feed_92 rfl ?_
            refine mv_iconst (v := 4) d_TrustDeskModel_feed_94 (by decide) ?_
            refine mv_iremv (v := 1) d_TrustDeskModel_feed_95 (by decide) (by decide) ?_
            refine mv_imulv (v := 8) d_TrustDeskModel_feed_96 (by decide) ?_
            refine mv_isubv (v := 16) d_TrustDeskModel_feed_97 (by decide) ?_
            refine mv_ishr d_TrustDeskModel_feed_98 ?_
            refine mv_i2b (v := (x4 >>> (16 &&& 31)).toInt8.toInt32) d_TrustDeskModel_feed_99 rfl ?_
            refine tr_bastE (k := 13) I_14 kKR_14 (I_14.up h_o0) q331 t_a332 (by decide) (by decide) (fun lo hi h => by cases h; exact mz_nar9 _) (Or.inl (by decide)) d_TrustDeskModel_feed_100 (vp_in_iff.mpr (by omega)) (fun M335 I336 K337 R338 E339 A340 V341 => ?_)
            have z342 := (V341 14)
            refine mv_aload_n d_TrustDeskModel_feed_101 rfl rfl ?_
            refine mv_dup d_TrustDeskModel_feed_102 rfl ?_
            refine tr_getK (k := 14) (K337 _ 13 14 _ q333) d_TrustDeskModel_feed_103 f_TrustDeskModel_189_13 ?_
            refine mv_iconst (v := 1) d_TrustDeskModel_feed_106 (by decide) ?_
            refine mv_iadd d_TrustDeskModel_feed_107 ?_
            obtain ⟨w343, h344, b345⟩ : ∃ w9 : Int32, (v334 + 1) = w9 ∧ w9.toInt = v334.toInt + 1 := ⟨_, rfl, mz_add2 rfl (by decide) (by omega) (by omega)⟩
            rw [h344]
            clear h344
            refine tr_putR (k := 14) I336 R338 h_q0_14 rfl ⟨_, rfl⟩ (fun _ h => by cases h) rfl (fun lo hi h => by cases h; have := R338.1 14 _ _ rfl; exact ⟨by show (0 : Int) ≤ w343.toInt; omega, by show w343.toInt ≤ (400 : Int); omega⟩) (Or.inl (by decide)) d_TrustDeskModel_feed_108 p_TrustDeskModel_189_13 rfl rfl (fun M346 I347 q348 K349 R350 A351 V352 => ?_)
            have z353 : rv M346 o0 14 = w343.toInt := tm_rv q348
            have X354 : pX M346 o0 (p_fk pb pn x1.toInt x2.toInt x3.toInt x4.toInt x5.toInt 14) (pn + 14) := iv2_14.put (u := (x4.toInt / 65536 % 256)) (m := v334.toNatClampNeg) E339 (fun j => A351 13 (by decide) j) ((tm_rv q348).trans (by omega)) (by have := mz_nat9 (i := v334) (by omega); omega) (by omega) (by omega) (mz_sb16 x4)
            refine mv_iinc (v := 14) (lv' := [(6, .int 14), (7, .int x4), (0, .ref o0), (1, .int x1), (2, .int x2), (3, .int x3), (4, .int x4), (5, .int x5)]) d_TrustDeskModel_feed_111 rfl (by decide) (by decide) rfl ?_
            refine mv_goto (tgt := 23) d_TrustDeskModel_feed_114 (by decide) ?_
            have : (14 : Int32).toInt = 14 := by decide
            refine mv_locals (lv' := [(6, .int 14), (0, .ref o0), (1, .int x1), (2, .int x2), (3, .int x3), (4, .int x4), (5, .int x5)]) (by intro q hq; simp only [List.mem_cons, List.not_mem_nil, or_false] at hq; rcases hq with rfl | rfl | rfl | rfl | rfl | rfl | rfl <;> rfl) ?_
            exact (ih14 14 T_14 M346 n_14 I347 h_q0_14 (by have := R350.1 14 _ _ rfl; first | omega | decide | exact fun h9 => absurd (by decide) h9) (by have := R350.1 14 _ _ rfl; first | omega | decide | exact fun h9 => absurd (by decide) h9) (by rw [show ((14 : Int32).toInt).toNat = 14 from by decide]; exact X354) R350 (by have := R350.1 14 _ _ rfl; omega))
          · obtain rfl : i6_14 = (14 : Int32) := Int32.toInt_inj.mp (b18.trans (by decide))
            have : (14 : Int32).toInt = 14 := by decide
            have : (15 : Int32).toInt = 15 := by decide
            rw [show ((14 : Int32).toInt).toNat = 14 from by decide] at iv2_14
            refine mv_iload d_TrustDeskModel_feed_30 rfl ?_
            refine mv_iconst (v := 4) d_TrustDeskModel_feed_32 (by decide) ?_
            refine mv_icmp_ge_t (tgt := 40) d_TrustDeskModel_feed_33 (by decide) (by decide) ?_
            refine mv_iload d_TrustDeskModel_feed_40 rfl ?_
            refine mv_bipush (v := 8) d_TrustDeskModel_feed_42 (by decide) ?_
            refine mv_icmp_ge_t (tgt := 51) d_TrustDeskModel_feed_44 (by decide) (by decide) ?_
            refine mv_iload d_TrustDeskModel_feed_51 rfl ?_
            refine mv_bipush (v := 12) d_TrustDeskModel_feed_53 (by decide) ?_
            refine mv_icmp_ge_t (tgt := 62) d_TrustDeskModel_feed_55 (by decide) (by decide) ?_
            refine mv_iload d_TrustDeskModel_feed_62 rfl ?_
            refine mv_bipush (v := 16) d_TrustDeskModel_feed_64 (by decide) ?_
            refine mv_icmp_ge_f (tgt := 74) d_TrustDeskModel_feed_66 (by decide) (by decide) ?_
            refine mv_iload d_TrustDeskModel_feed_69 rfl ?_
            refine mv_goto (tgt := 76) d_TrustDeskModel_feed_71 (by decide) ?_
            refine mv_istore (lv' := [(7, .int x4), (6, .int 14), (0, .ref o0), (1, .int x1), (2, .int x2), (3, .int x3), (4, .int x4), (5, .int x5)]) d_TrustDeskModel_feed_76 (by decide) rfl ?_
            refine mv_aload_n d_TrustDeskModel_feed_78 rfl rfl ?_
            obtain ⟨a356, q355, t_a356⟩ := tm_atR I_14 h_q0_14 (k := 13) rfl
            refine tr_getK q355 d_TrustDeskModel_feed_79 f_TrustDeskModel_44_13 ?_
            refine mv_aload_n d_TrustDeskModel_feed_82 rfl rfl ?_
            obtain ⟨v358, q357⟩ := tm_atI I_14 h_q0_14 (k := 14) rfl
            refine tr_getK q357 d_TrustDeskModel_feed_83 f_TrustDeskModel_189_13 ?_
            have := kKR_14.f (k := 14) q357 rfl
            have := tm_rv q357
            refine mv_iload d_TrustDeskModel_feed_86 rfl ?_
            refine mv_bipush (v := 24) d_TrustDeskModel_feed_88 (by decide) ?_
            refine mv_bipush (v := 8) d_TrustDeskModel_feed_90 (by decide) ?_
            refine mv_iload d_TrustDeskModel_feed_92 rfl ?_
            refine mv_iconst (v := 4) d_TrustDeskModel_feed_94 (by decide) ?_
            refine mv_iremv (v := 2) d_TrustDeskModel_feed_95 (by decide) (by decide) ?_
            refine mv_imulv (v := 16) d_TrustDeskModel_feed_96 (by decide) ?_
            refine mv_isubv (v := 8) d_TrustDeskModel_feed_97 (by decide) ?_
            refine mv_ishr d_TrustDeskModel_feed_98 ?_
            refine mv_i2b (v := (x4 >>> (8 &&& 31)).toInt8.toInt32) d_TrustDeskModel_feed_99 rfl ?_
            refine tr_bastE (k := 13) I_14 kKR_14 (I_14.up h_o0) q355 t_a356 (by decide) (by decide) (fun lo hi h => by cases h; exact mz_nar9 _) (Or.inl (by decide)) d_TrustDeskModel_feed_100 (vp_in_iff.mpr (by omega)) (fun M359 I360 K361 R362 E363 A364 V365 => ?_)
            have z366 := (V365 14)
            refine mv_aload_n d_TrustDeskModel_feed_101 rfl rfl ?_
            refine mv_dup d_TrustDeskModel_feed_102 rfl ?_
            refine tr_getK (k := 14) (K361 _ 13 14 _ q357) d_TrustDeskModel_feed_103 f_TrustDeskModel_189_13 ?_
            refine mv_iconst (v := 1) d_TrustDeskModel_feed_106 (by decide) ?_
            refine mv_iadd d_TrustDeskModel_feed_107 ?_
            obtain ⟨w367, h368, b369⟩ : ∃ w9 : Int32, (v358 + 1) = w9 ∧ w9.toInt = v358.toInt + 1 := ⟨_, rfl, mz_add2 rfl (by decide) (by omega) (by omega)⟩
            rw [h368]
            clear h368
            refine tr_putR (k := 14) I360 R362 h_q0_14 rfl ⟨_, rfl⟩ (fun _ h => by cases h) rfl (fun lo hi h => by cases h; have := R362.1 14 _ _ rfl; exact ⟨by show (0 : Int) ≤ w367.toInt; omega, by show w367.toInt ≤ (400 : Int); omega⟩) (Or.inl (by decide)) d_TrustDeskModel_feed_108 p_TrustDeskModel_189_13 rfl rfl (fun M370 I371 q372 K373 R374 A375 V376 => ?_)
            have z377 : rv M370 o0 14 = w367.toInt := tm_rv q372
            have X378 : pX M370 o0 (p_fk pb pn x1.toInt x2.toInt x3.toInt x4.toInt x5.toInt 15) (pn + 15) := iv2_14.put (u := (x4.toInt / 256 % 256)) (m := v358.toNatClampNeg) E363 (fun j => A375 13 (by decide) j) ((tm_rv q372).trans (by omega)) (by have := mz_nat9 (i := v358) (by omega); omega) (by omega) (by omega) (mz_sb8 x4)
            refine mv_iinc (v := 15) (lv' := [(6, .int 15), (7, .int x4), (0, .ref o0), (1, .int x1), (2, .int x2), (3, .int x3), (4, .int x4), (5, .int x5)]) d_TrustDeskModel_feed_111 rfl (by decide) (by decide) rfl ?_
            refine mv_goto (tgt := 23) d_TrustDeskModel_feed_114 (by decide) ?_
            have : (15 : Int32).toInt = 15 := by decide
            refine mv_locals (lv' := [(6, .int 15), (0, .ref o0), (1, .int x1), (2, .int x2), (3, .int x3), (4, .int x4), (5, .int x5)]) (by intro q hq; simp only [List.mem_cons, List.not_mem_nil, or_false] at hq; rcases hq with rfl | rfl | rfl | rfl | rfl | rfl | rfl <;> rfl) ?_
            exact (ih14 15 T_14 M370 n_14 I371 h_q0_14 (by have := R374.1 14 _ _ rfl; first | omega | decide | exact fun h9 => absurd (by decide) h9) (by have := R374.1 14 _ _ rfl; first | omega | decide | exact fun h9 => absurd (by decide) h9) (by rw [show ((15 : Int32).toInt).toNat = 15 from by decide]; exact X378) R374 (by have := R374.1 14 _ _ rfl; omega))
          · obtain rfl : i6_14 = (15 : Int32) := Int32.toInt_inj.mp (b18.trans (by decide))
            have : (15 : Int32).toInt = 15 := by decide
            have : (16 : Int32).toInt = 16 := by decide
            rw [show ((15 : Int32).toInt).toNat = 15 from by decide] at iv2_14
            refine mv_iload d_TrustDeskModel_feed_30 rfl ?_
            refine mv_iconst (v := 4) d_TrustDeskModel_feed_32 (by decide) ?_
            refine mv_icmp_ge_t (tgt := 40) d_TrustDeskModel_feed_33 (by decide) (by decide) ?_
            refine mv_iload d_TrustDeskModel_feed_40 rfl ?_
            refine mv_bipush (v := 8) d_TrustDeskModel_feed_42 (by decide) ?_
            refine mv_icmp_ge_t (tgt := 51) d_TrustDeskModel_feed_44 (by decide) (by decide) ?_
            refine mv_iload d_TrustDeskModel_feed_51 rfl ?_
            refine mv_bipush (v := 12) d_TrustDeskModel_feed_53 (by decide) ?_
            refine mv_icmp_ge_t (tgt := 62) d_TrustDeskModel_feed_55 (by decide) (by decide) ?_
            refine mv_iload d_TrustDeskModel_feed_62 rfl ?_
            refine mv_bipush (v := 16) d_TrustDeskModel_feed_64 (by decide) ?_
            refine mv_icmp_ge_f (tgt := 74) d_TrustDeskModel_feed_66 (by decide) (by decide) ?_
            refine mv_iload d_TrustDeskModel_feed_69 rfl ?_
            refine mv_goto (tgt := 76) d_TrustDeskModel_feed_71 (by decide) ?_
            refine mv_istore (lv' := [(7, .int x4), (6, .int 15), (0, .ref o0), (1, .int x1), (2, .int x2), (3, .int x3), (4, .int x4), (5, .int x5)]) d_TrustDeskModel_feed_76 (by decide) rfl ?_
            refine mv_aload_n d_TrustDeskModel_feed_78 rfl rfl ?_
            obtain ⟨a380, q379, t_a380⟩ := tm_atR I_14 h_q0_14 (k := 13) rfl
            refine tr_getK q379 d_TrustDeskModel_feed_79 f_TrustDeskModel_44_13 ?_
            refine mv_aload_n d_TrustDeskModel_feed_82 rfl rfl ?_
            obtain ⟨v382, q381⟩ := tm_atI I_14 h_q0_14 (k := 14) rfl
            refine tr_getK q381 d_TrustDeskModel_feed_83 f_TrustDeskModel_189_13 ?_
            have := kKR_14.f (k := 14) q381 rfl
            have := tm_rv q381
            refine mv_iload d_TrustDeskModel_feed_86 rfl ?_
            refine mv_bipush (v := 24) d_TrustDeskModel_feed_88 (by decide) ?_
            refine mv_bipush (v := 8) d_TrustDeskModel_feed_90 (by decide) ?_
            refine mv_iload d_TrustDeskModel_feed_92 rfl ?_
            refine mv_iconst (v := 4) d_TrustDeskModel_feed_94 (by decide) ?_
            refine mv_iremv (v := 3) d_TrustDeskModel_feed_95 (by decide) (by decide) ?_
            refine mv_imulv (v := 24) d_TrustDeskModel_feed_96 (by decide) ?_
            refine mv_isubv (v := 0) d_TrustDeskModel_feed_97 (by decide) ?_
            refine mv_ishr d_TrustDeskModel_feed_98 ?_
            refine mv_i2b (v := (x4 >>> (0 &&& 31)).toInt8.toInt32) d_TrustDeskModel_feed_99 rfl ?_
            refine tr_bastE (k := 13) I_14 kKR_14 (I_14.up h_o0) q379 t_a380 (by decide) (by decide) (fun lo hi h => by cases h; exact mz_nar9 _) (Or.inl (by decide)) d_TrustDeskModel_feed_100 (vp_in_iff.mpr (by omega)) (fun M383 I384 K385 R386 E387 A388 V389 => ?_)
            have z390 := (V389 14)
            refine mv_aload_n d_TrustDeskModel_feed_101 rfl rfl ?_
            refine mv_dup d_TrustDeskModel_feed_102 rfl ?_
            refine tr_getK (k := 14) (K385 _ 13 14 _ q381) d_TrustDeskModel_feed_103 f_TrustDeskModel_189_13 ?_
            refine mv_iconst (v := 1) d_TrustDeskModel_feed_106 (by decide) ?_
            refine mv_iadd d_TrustDeskModel_feed_107 ?_
            obtain ⟨w391, h392, b393⟩ : ∃ w9 : Int32, (v382 + 1) = w9 ∧ w9.toInt = v382.toInt + 1 := ⟨_, rfl, mz_add2 rfl (by decide) (by omega) (by omega)⟩
            rw [h392]
            clear h392
            refine tr_putR (k := 14) I384 R386 h_q0_14 rfl ⟨_, rfl⟩ (fun _ h => by cases h) rfl (fun lo hi h => by cases h; have := R386.1 14 _ _ rfl; exact ⟨by show (0 : Int) ≤ w391.toInt; omega, by show w391.toInt ≤ (400 : Int); omega⟩) (Or.inl (by decide)) d_TrustDeskModel_feed_108 p_TrustDeskModel_189_13 rfl rfl (fun M394 I395 q396 K397 R398 A399 V400 => ?_)
            have z401 : rv M394 o0 14 = w391.toInt := tm_rv q396
            have X402 : pX M394 o0 (p_fk pb pn x1.toInt x2.toInt x3.toInt x4.toInt x5.toInt 16) (pn + 16) := iv2_14.put (u := (x4.toInt / 1 % 256)) (m := v382.toNatClampNeg) E387 (fun j => A399 13 (by decide) j) ((tm_rv q396).trans (by omega)) (by have := mz_nat9 (i := v382) (by omega); omega) (by omega) (by omega) (mz_sb0 x4)
            refine mv_iinc (v := 16) (lv' := [(6, .int 16), (7, .int x4), (0, .ref o0), (1, .int x1), (2, .int x2), (3, .int x3), (4, .int x4), (5, .int x5)]) d_TrustDeskModel_feed_111 rfl (by decide) (by decide) rfl ?_
            refine mv_goto (tgt := 23) d_TrustDeskModel_feed_114 (by decide) ?_
            have : (16 : Int32).toInt = 16 := by decide
            refine mv_locals (lv' := [(6, .int 16), (0, .ref o0), (1, .int x1), (2, .int x2), (3, .int x3), (4, .int x4), (5, .int x5)]) (by intro q hq; simp only [List.mem_cons, List.not_mem_nil, or_false] at hq; rcases hq with rfl | rfl | rfl | rfl | rfl | rfl | rfl <;> rfl) ?_
            exact (ih14 16 T_14 M394 n_14 I395 h_q0_14 (by have := R398.1 14 _ _ rfl; first | omega | decide | exact fun h9 => absurd (by decide) h9) (by have := R398.1 14 _ _ rfl; first | omega | decide | exact fun h9 => absurd (by decide) h9) (by rw [show ((16 : Int32).toInt).toNat = 16 from by decide]; exact X402) R398 (by have := R398.1 14 _ _ rfl; omega))
          · obtain rfl : i6_14 = (16 : Int32) := Int32.toInt_inj.mp (b18.trans (by decide))
            have : (16 : Int32).toInt = 16 := by decide
            have : (17 : Int32).toInt = 17 := by decide
            rw [show ((16 : Int32).toInt).toNat = 16 from by decide] at iv2_14
            refine mv_iload d_TrustDeskModel_feed_30 rfl ?_
            refine mv_iconst (v := 4) d_TrustDeskModel_feed_32 (by decide) ?_
            refine mv_icmp_ge_t (tgt := 40) d_TrustDeskModel_feed_33 (by decide) (by decide) ?_
            refine mv_iload d_TrustDeskModel_feed_40 rfl ?_
            refine mv_bipush (v := 8) d_TrustDeskModel_feed_42 (by decide) ?_
            refine mv_icmp_ge_t (tgt := 51) d_TrustDeskModel_feed_44 (by decide) (by decide) ?_
            refine mv_iload d_TrustDeskModel_feed_51 rfl ?_
            refine mv_bipush (v := 12) d_TrustDeskModel_feed_53 (by decide) ?_
            refine mv_icmp_ge_t (tgt := 62) d_TrustDeskModel_feed_55 (by decide) (by decide) ?_
            refine mv_iload d_TrustDeskModel_feed_62 rfl ?_
            refine mv_bipush (v := 16) d_TrustDeskModel_feed_64 (by decide) ?_
            refine mv_icmp_ge_t (tgt := 74) d_TrustDeskModel_feed_66 (by decide) (by decide) ?_
            refine mv_iload d_TrustDeskModel_feed_74 rfl ?_
            refine mv_istore (lv' := [(7, .int x5), (6, .int 16), (0, .ref o0), (1, .int x1), (2, .int x2), (3, .int x3), (4, .int x4), (5, .int x5)]) d_TrustDeskModel_feed_76 (by decide) rfl ?_
            refine mv_aload_n d_TrustDeskModel_feed_78 rfl rfl ?_
            obtain ⟨a404, q403, t_a404⟩ := tm_atR I_14 h_q0_14 (k := 13) rfl
            refine tr_getK q403 d_TrustDeskModel_feed_79 f_TrustDeskModel_44_13 ?_
            refine mv_aload_n d_TrustDeskModel_feed_82 rfl rfl ?_
            obtain ⟨v406, q405⟩ := tm_atI I_14 h_q0_14 (k := 14) rfl
            refine tr_getK q405 d_TrustDeskModel_feed_83 f_TrustDeskModel_189_13 ?_
            have := kKR_14.f (k := 14) q405 rfl
            have := tm_rv q405
            refine mv_iload d_TrustDeskModel_feed_86 rfl ?_
            refine mv_bipush (v := 24) d_TrustDeskModel_feed_88 (by decide) ?_
            refine mv_bipush (v := 8) d_TrustDeskModel_feed_90 (by decide) ?_
            refine mv_iload d_TrustDeskModel_feed_92 rfl ?_
            refine mv_iconst (v := 4) d_TrustDeskModel_feed_94 (by decide) ?_
            refine mv_iremv (v := 0) d_TrustDeskModel_feed_95 (by decide) (by decide) ?_
            refine mv_imulv (v := 0) d_TrustDeskModel_feed_96 (by decide) ?_
            refine mv_isubv (v := 24) d_TrustDeskModel_feed_97 (by decide) ?_
            refine mv_ishr d_TrustDeskModel_feed_98 ?_
            refine mv_i2b (v := (x5 >>> (24 &&& 31)).toInt8.toInt32) d_TrustDeskModel_feed_99 rfl ?_
            refine tr_bastE (k := 13) I_14 kKR_14 (I_14.up h_o0) q403 t_a404 (by decide) (by decide) (fun lo hi h => by cases h; exact mz_nar9 _) (Or.inl (by decide)) d_TrustDeskModel_feed_100 (vp_in_iff.mpr (by omega)) (fun M407 I408 K409 R410 E411 A412 V413 => ?_)
            have z414 := (V413 14)
            refine mv_aload_n d_TrustDeskModel_feed_101 rfl rfl ?_
            refine mv_dup d_TrustDeskModel_feed_102 rfl ?_
            refine tr_getK (k := 14) (K409 _ 13 14 _ q405) d_TrustDeskModel_feed_103 f_TrustDeskModel_189_13 ?_
            refine mv_iconst (v := 1) d_TrustDeskModel_feed_106 (by decide) ?_
            refine mv_iadd d_TrustDeskModel_feed_107 ?_
            obtain ⟨w415, h416, b417⟩ : ∃ w9 : Int32, (v406 + 1) = w9 ∧ w9.toInt = v406.toInt + 1 := ⟨_, rfl, mz_add2 rfl (by decide) (by omega) (by omega)⟩
            rw [h416]
            clear h416
            refine tr_putR (k := 14) I408 R410 h_q0_14 rfl ⟨_, rfl⟩ (fun _ h => by cases h) rfl (fun lo hi h => by cases h; have := R410.1 14 _ _ rfl; exact ⟨by show (0 : Int) ≤ w415.toInt; omega, by show w415.toInt ≤ (400 : Int); omega⟩) (Or.inl (by decide)) d_TrustDeskModel_feed_108 p_TrustDeskModel_189_13 rfl rfl (fun M418 I419 q420 K421 R422 A423 V424 => ?_)
            have z425 : rv M418 o0 14 = w415.toInt := tm_rv q420
            have X426 : pX M418 o0 (p_fk pb pn x1.toInt x2.toInt x3.toInt x4.toInt x5.toInt 17) (pn + 17) := iv2_14.put (u := (x5.toInt / 16777216 % 256)) (m := v406.toNatClampNeg) E411 (fun j => A423 13 (by decide) j) ((tm_rv q420).trans (by omega)) (by have := mz_nat9 (i := v406) (by omega); omega) (by omega) (by omega) (mz_sb24 x5)
            refine mv_iinc (v := 17) (lv' := [(6, .int 17), (7, .int x5), (0, .ref o0), (1, .int x1), (2, .int x2), (3, .int x3), (4, .int x4), (5, .int x5)]) d_TrustDeskModel_feed_111 rfl (by decide) (by decide) rfl ?_
            refine mv_goto (tgt := 23) d_TrustDeskModel_feed_114 (by decide) ?_
            have : (17 : Int32).toInt = 17 := by decide
            refine mv_locals (lv' := [(6, .int 17), (0, .ref o0), (1, .int x1), (2, .int x2), (3, .int x3), (4, .int x4), (5, .int x5)]) (by intro q hq; simp only [List.mem_cons, List.not_mem_nil, or_false] at hq; rcases hq with rfl | rfl | rfl | rfl | rfl | rfl | rfl <;> rfl) ?_
            exact (ih14 17 T_14 M418 n_14 I419 h_q0_14 (by have := R422.1 14 _ _ rfl; first | omega | decide | exact fun h9 => absurd (by decide) h9) (by have := R422.1 14 _ _ rfl; first | omega | decide | exact fun h9 => absurd (by decide) h9) (by rw [show ((17 : Int32).toInt).toNat = 17 from by decide]; exact X426) R422 (by have := R422.1 14 _ _ rfl; omega))
          · obtain rfl : i6_14 = (17 : Int32) := Int32.toInt_inj.mp (b18.trans (by decide))
            have : (17 : Int32).toInt = 17 := by decide
            have : (18 : Int32).toInt = 18 := by decide
            rw [show ((17 : Int32).toInt).toNat = 17 from by decide] at iv2_14
            refine mv_iload d_TrustDeskModel_feed_30 rfl ?_
            refine mv_iconst (v := 4) d_TrustDeskModel_feed_32 (by decide) ?_
            refine mv_icmp_ge_t (tgt := 40) d_TrustDeskModel_feed_33 (by decide) (by decide) ?_
            refine mv_iload d_TrustDeskModel_feed_40 rfl ?_
            refine mv_bipush (v := 8) d_TrustDeskModel_feed_42 (by decide) ?_
            refine mv_icmp_ge_t (tgt := 51) d_TrustDeskModel_feed_44 (by decide) (by decide) ?_
            refine mv_iload d_TrustDeskModel_feed_51 rfl ?_
            refine mv_bipush (v := 12) d_TrustDeskModel_feed_53 (by decide) ?_
            refine mv_icmp_ge_t (tgt := 62) d_TrustDeskModel_feed_55 (by decide) (by decide) ?_
            refine mv_iload d_TrustDeskModel_feed_62 rfl ?_
            refine mv_bipush (v := 16) d_TrustDeskModel_feed_64 (by decide) ?_
            refine mv_icmp_ge_t (tgt := 74) d_TrustDeskModel_feed_66 (by decide) (by decide) ?_
            refine mv_iload d_TrustDeskModel_feed_74 rfl ?_
            refine mv_istore (lv' := [(7, .int x5), (6, .int 17), (0, .ref o0), (1, .int x1), (2, .int x2), (3, .int x3), (4, .int x4), (5, .int x5)]) d_TrustDeskModel_feed_76 (by decide) rfl ?_
            refine mv_aload_n d_TrustDeskModel_feed_78 rfl rfl ?_
            obtain ⟨a428, q427, t_a428⟩ := tm_atR I_14 h_q0_14 (k := 13) rfl
            refine tr_getK q427 d_TrustDeskModel_feed_79 f_TrustDeskModel_44_13 ?_
            refine mv_aload_n d_TrustDeskModel_feed_82 rfl rfl ?_
            obtain ⟨v430, q429⟩ := tm_atI I_14 h_q0_14 (k := 14) rfl
            refine tr_getK q429 d_TrustDeskModel_feed_83 f_TrustDeskModel_189_13 ?_
            have := kKR_14.f (k := 14) q429 rfl
            have := tm_rv q429
            refine mv_iload d_TrustDeskModel_feed_86 rfl ?_
            refine mv_bipush (v := 24) d_TrustDeskModel_feed_88 (by decide) ?_
            refine mv_bipush (v := 8) d_TrustDeskModel_feed_90 (by decide) ?_
            refine mv_iload d_TrustDeskModel_feed_92 rfl ?_
            refine mv_iconst (v := 4) d_TrustDeskModel_feed_94 (by decide) ?_
            refine mv_iremv (v := 1) d_TrustDeskModel_feed_95 (by decide) (by decide) ?_
            refine mv_imulv (v := 8) d_TrustDeskModel_feed_96 (by decide) ?_
            refine mv_isubv (v := 16) d_TrustDeskModel_feed_97 (by decide) ?_
            refine mv_ishr d_TrustDeskModel_feed_98 ?_
            refine mv_i2b (v := (x5 >>> (16 &&& 31)).toInt8.toInt32) d_TrustDeskModel_feed_99 rfl ?_
            refine tr_bastE (k := 13) I_14 kKR_14 (I_14.up h_o0) q427 t_a428 (by decide) (by decide) (fun lo hi h => by cases h; exact mz_nar9 _) (Or.inl (by decide)) d_TrustDeskModel_feed_100 (vp_in_iff.mpr (by omega)) (fun M431 I432 K433 R434 E435 A436 V437 => ?_)
            have z438 := (V437 14)
            refine mv_aload_n d_TrustDeskModel_feed_101 rfl rfl ?_
            refine mv_dup d_TrustDeskModel_feed_102 rfl ?_
            refine tr_getK (k := 14) (K433 _ 13 14 _ q429) d_TrustDeskModel_feed_103 f_TrustDeskModel_189_13 ?_
            refine mv_iconst (v := 1) d_TrustDeskModel_feed_106 (by decide) ?_
            refine mv_iadd d_TrustDeskModel_feed_107 ?_
            obtain ⟨w439, h440, b441⟩ : ∃ w9 : Int32, (v430 + 1) = w9 ∧ w9.toInt = v430.toInt + 1 := ⟨_, rfl, mz_add2 rfl (by decide) (by omega) (by omega)⟩
            rw [h440]
            clear h440
            refine tr_putR (k := 14) I432 R434 h_q0_14 rfl ⟨_, rfl⟩ (fun _ h => by cases h) rfl (fun lo hi h => by cases h; have := R434.1 14 _ _ rfl; exact ⟨by show (0 : Int) ≤ w439.toInt; omega, by show w439.toInt ≤ (400 : Int); omega⟩) (Or.inl (by decide)) d_TrustDeskModel_feed_108 p_TrustDeskModel_189_13 rfl rfl (fun M442 I443 q444 K445 R446 A447 V448 => ?_)
            have z449 : rv M442 o0 14 = w439.toInt := tm_rv q444
            have X450 : pX M442 o0 (p_fk pb pn x1.toInt x2.toInt x3.toInt x4.toInt x5.toInt 18) (pn + 18) := iv2_14.put (u := (x5.toInt / 65536 % 256)) (m := v430.toNatClampNeg) E435 (fun j => A447 13 (by decide) j) ((tm_rv q444).trans (by omega)) (by have := mz_nat9 (i := v430) (by omega); omega) (by omega) (by omega) (mz_sb16 x5)
            refine mv_iinc (v := 18) (lv' := [(6, .int 18), (7, .int x5), (0, .ref o0), (1, .int x1), (2, .int x2), (3, .int x3), (4, .int x4), (5, .int x5)]) d_TrustDeskModel_feed_111 rfl (by decide) (by decide) rfl ?_
            refine mv_goto (tgt := 23) d_TrustDeskModel_feed_114 (by decide) ?_
            have : (18 : Int32).toInt = 18 := by decide
            refine mv_locals (lv' := [(6, .int 18), (0, .ref o0), (1, .int x1), (2, .int x2), (3, .int x3), (4, .int x4), (5, .int x5)]) (by intro q hq; simp only [List.mem_cons, List.not_mem_nil, or_false] at hq; rcases hq with rfl | rfl | rfl | rfl | rfl | rfl | rfl <;> rfl) ?_
            exact (ih14 18 T_14 M442 n_14 I443 h_q0_14 (by have := R446.1 14 _ _ rfl; first | omega | decide | exact fun h9 => absurd (by decide) h9) (by have := R446.1 14 _ _ rfl; first | omega | decide | exact fun h9 => absurd (by decide) h9) (by rw [show ((18 : Int32).toInt).toNat = 18 from by decide]; exact X450) R446 (by have := R446.1 14 _ _ rfl; omega))
          · obtain rfl : i6_14 = (18 : Int32) := Int32.toInt_inj.mp (b18.trans (by decide))
            have : (18 : Int32).toInt = 18 := by decide
            have : (19 : Int32).toInt = 19 := by decide
            rw [show ((18 : Int32).toInt).toNat = 18 from by decide] at iv2_14
            refine mv_iload d_TrustDeskModel_feed_30 rfl ?_
            refine mv_iconst (v := 4) d_TrustDeskModel_feed_32 (by decide) ?_
            refine mv_icmp_ge_t (tgt := 40) d_TrustDeskModel_feed_33 (by decide) (by decide) ?_
            refine mv_iload d_TrustDeskModel_feed_40 rfl ?_
            refine mv_bipush (v := 8) d_TrustDeskModel_feed_42 (by decide) ?_
            refine mv_icmp_ge_t (tgt := 51) d_TrustDeskModel_feed_44 (by decide) (by decide) ?_
            refine mv_iload d_TrustDeskModel_feed_51 rfl ?_
            refine mv_bipush (v := 12) d_TrustDeskModel_feed_53 (by decide) ?_
            refine mv_icmp_ge_t (tgt := 62) d_TrustDeskModel_feed_55 (by decide) (by decide) ?_
            refine mv_iload d_TrustDeskModel_feed_62 rfl ?_
            refine mv_bipush (v := 16) d_TrustDeskModel_feed_64 (by decide) ?_
            refine mv_icmp_ge_t (tgt := 74) d_TrustDeskModel_feed_66 (by decide) (by decide) ?_
            refine mv_iload d_TrustDeskModel_feed_74 rfl ?_
            refine mv_istore (lv' := [(7, .int x5), (6, .int 18), (0, .ref o0), (1, .int x1), (2, .int x2), (3, .int x3), (4, .int x4), (5, .int x5)]) d_TrustDeskModel_feed_76 (by decide) rfl ?_
            refine mv_aload_n d_TrustDeskModel_feed_78 rfl rfl ?_
            obtain ⟨a452, q451, t_a452⟩ := tm_atR I_14 h_q0_14 (k := 13) rfl
            refine tr_getK q451 d_TrustDeskModel_feed_79 f_TrustDeskModel_44_13 ?_
            refine mv_aload_n d_TrustDeskModel_feed_82 rfl rfl ?_
            obtain ⟨v454, q453⟩ := tm_atI I_14 h_q0_14 (k := 14) rfl
            refine tr_getK q453 d_TrustDeskModel_feed_83 f_TrustDeskModel_189_13 ?_
            have := kKR_14.f (k := 14) q453 rfl
            have := tm_rv q453
            refine mv_iload d_TrustDeskModel_feed_86 rfl ?_
            refine mv_bipush (v := 24) d_TrustDeskModel_feed_88 (by decide) ?_
            refine mv_bipush (v := 8) d_TrustDeskModel_feed_90 (by decide) ?_
            refine mv_iload d_TrustDeskModel_feed_92 rfl ?_
            refine mv_iconst (v := 4) d_TrustDeskModel_feed_94 (by decide) ?_
            refine mv_iremv (v := 2) d_TrustDeskModel_feed_95 (by decide) (by decide) ?_
            refine mv_imulv (v := 16) d_TrustDeskModel_feed_96 (by decide) ?_
            refine mv_isubv (v := 8) d_TrustDeskModel_feed_97 (by decide) ?_
            refine mv_ishr d_TrustDeskModel_feed_98 ?_
            refine mv_i2b (v := (x5 >>> (8 &&& 31)).toInt8.toInt32) d_TrustDeskModel_feed_99 rfl ?_
            refine tr_bastE (k := 13) I_14 kKR_14 (I_14.up h_o0) q451 t_a452 (by decide) (by decide) (fun lo hi h => by cases h; exact mz_nar9 _) (Or.inl (by decide)) d_TrustDeskModel_feed_100 (vp_in_iff.mpr (by omega)) (fun M455 I456 K457 R458 E459 A460 V461 => ?_)
            have z462 := (V461 14)
            refine mv_aload_n d_TrustDeskModel_feed_101 rfl rfl ?_
            refine mv_dup d_TrustDeskModel_feed_102 rfl ?_
            refine tr_getK (k := 14) (K457 _ 13 14 _ q453) d_TrustDeskModel_feed_103 f_TrustDeskModel_189_13 ?_
            refine mv_iconst (v := 1) d_TrustDeskModel_feed_106 (by decide) ?_
            refine mv_iadd d_TrustDeskModel_feed_107 ?_
            obtain ⟨w463, h464, b465⟩ : ∃ w9 : Int32, (v454 + 1) = w9 ∧ w9.toInt = v454.toInt + 1 := ⟨_, rfl, mz_add2 rfl (by decide) (by omega) (by omega)⟩
            rw [h464]
            clear h464
            refine tr_putR (k := 14) I456 R458 h_q0_14 rfl ⟨_, rfl⟩ (fun _ h => by cases h) rfl (fun lo hi h => by cases h; have := R458.1 14 _ _ rfl; exact ⟨by show (0 : Int) ≤ w463.toInt; omega, by show w463.toInt ≤ (400 : Int); omega⟩) (Or.inl (by decide)) d_TrustDeskModel_feed_108 p_TrustDeskModel_189_13 rfl rfl (fun M466 I467 q468 K469 R470 A471 V472 => ?_)
            have z473 : rv M466 o0 14 = w463.toInt := tm_rv q468
            have X474 : pX M466 o0 (p_fk pb pn x1.toInt x2.toInt x3.toInt x4.toInt x5.toInt 19) (pn + 19) := iv2_14.put (u := (x5.toInt / 256 % 256)) (m := v454.toNatClampNeg) E459 (fun j => A471 13 (by decide) j) ((tm_rv q468).trans (by omega)) (by have := mz_nat9 (i := v454) (by omega); omega) (by omega) (by omega) (mz_sb8 x5)
            refine mv_iinc (v := 19) (lv' := [(6, .int 19), (7, .int x5), (0, .ref o0), (1, .int x1), (2, .int x2), (3, .int x3), (4, .int x4), (5, .int x5)]) d_TrustDeskModel_feed_111 rfl (by decide) (by decide) rfl ?_
            refine mv_goto (tgt := 23) d_TrustDeskModel_feed_114 (by decide) ?_
            have : (19 : Int32).toInt = 19 := by decide
            refine mv_locals (lv' := [(6, .int 19), (0, .ref o0), (1, .int x1), (2, .int x2), (3, .int x3), (4, .int x4), (5, .int x5)]) (by intro q hq; simp only [List.mem_cons, List.not_mem_nil, or_false] at hq; rcases hq with rfl | rfl | rfl | rfl | rfl | rfl | rfl <;> rfl) ?_
            exact (ih14 19 T_14 M466 n_14 I467 h_q0_14 (by have := R470.1 14 _ _ rfl; first | omega | decide | exact fun h9 => absurd (by decide) h9) (by have := R470.1 14 _ _ rfl; first | omega | decide | exact fun h9 => absurd (by decide) h9) (by rw [show ((19 : Int32).toInt).toNat = 19 from by decide]; exact X474) R470 (by have := R470.1 14 _ _ rfl; omega))
          · obtain rfl : i6_14 = (19 : Int32) := Int32.toInt_inj.mp (b18.trans (by decide))
            have : (19 : Int32).toInt = 19 := by decide
            have : (20 : Int32).toInt = 20 := by decide
            rw [show ((19 : Int32).toInt).toNat = 19 from by decide] at iv2_14
            refine mv_iload d_TrustDeskModel_feed_30 rfl ?_
            refine mv_iconst (v := 4) d_TrustDeskModel_feed_32 (by decide) ?_
            refine mv_icmp_ge_t (tgt := 40) d_TrustDeskModel_feed_33 (by decide) (by decide) ?_
            refine mv_iload d_TrustDeskModel_feed_40 rfl ?_
            refine mv_bipush (v := 8) d_TrustDeskModel_feed_42 (by decide) ?_
            refine mv_icmp_ge_t (tgt := 51) d_TrustDeskModel_feed_44 (by decide) (by decide) ?_
            refine mv_iload d_TrustDeskModel_feed_51 rfl ?_
            refine mv_bipush (v := 12) d_TrustDeskModel_feed_53 (by decide) ?_
            refine mv_icmp_ge_t (tgt := 62) d_TrustDeskModel_feed_55 (by decide) (by decide) ?_
            refine mv_iload d_TrustDeskModel_feed_62 rfl ?_
            refine mv_bipush (v := 16) d_TrustDeskModel_feed_64 (by decide) ?_
            refine mv_icmp_ge_t (tgt := 74) d_TrustDeskModel_feed_66 (by decide) (by decide) ?_
            refine mv_iload d_TrustDeskModel_feed_74 rfl ?_
            refine mv_istore (lv' := [(7, .int x5), (6, .int 19), (0, .ref o0), (1, .int x1), (2, .int x2), (3, .int x3), (4, .int x4), (5, .int x5)]) d_TrustDeskModel_feed_76 (by decide) rfl ?_
            refine mv_aload_n d_TrustDeskModel_feed_78 rfl rfl ?_
            obtain ⟨a476, q475, t_a476⟩ := tm_atR I_14 h_q0_14 (k := 13) rfl
            refine tr_getK q475 d_TrustDeskModel_feed_79 f_TrustDeskModel_44_13 ?_
            refine mv_aload_n d_TrustDeskModel_feed_82 rfl rfl ?_
            obtain ⟨v478, q477⟩ := tm_atI I_14 h_q0_14 (k := 14) rfl
            refine tr_getK q477 d_TrustDeskModel_feed_83 f_TrustDeskModel_189_13 ?_
            have := kKR_14.f (k := 14) q477 rfl
            have := tm_rv q477
            refine mv_iload d_TrustDeskModel_feed_86 rfl ?_
            refine mv_bipush (v := 24) d_TrustDeskModel_feed_88 (by decide) ?_
            refine mv_bipush (v := 8) d_TrustDeskModel_feed_90 (by decide) ?_
            refine mv_iload d_TrustDeskModel_feed_92 rfl ?_
            refine mv_iconst (v := 4) d_TrustDeskModel_feed_94 (by decide) ?_
            refine mv_iremv (v := 3) d_TrustDeskModel_feed_95 (by decide) (by decide) ?_
            refine mv_imulv (v := 24) d_TrustDeskModel_feed_96 (by decide) ?_
            refine mv_isubv (v := 0) d_TrustDeskModel_feed_97 (by decide) ?_
            refine mv_ishr d_TrustDeskModel_feed_98 ?_
            refine mv_i2b (v := (x5 >>> (0 &&& 31)).toInt8.toInt32) d_TrustDeskModel_feed_99 rfl ?_
            refine tr_bastE (k := 13) I_14 kKR_14 (I_14.up h_o0) q475 t_a476 (by decide) (by decide) (fun lo hi h => by cases h; exact mz_nar9 _) (Or.inl (by decide)) d_TrustDeskModel_feed_100 (vp_in_iff.mpr (by omega)) (fun M479 I480 K481 R482 E483 A484 V485 => ?_)
            have z486 := (V485 14)
            refine mv_aload_n d_TrustDeskModel_feed_101 rfl rfl ?_
            refine mv_dup d_TrustDeskModel_feed_102 rfl ?_
            refine tr_getK (k := 14) (K481 _ 13 14 _ q477) d_TrustDeskModel_feed_103 f_TrustDeskModel_189_13 ?_
            refine mv_iconst (v := 1) d_TrustDeskModel_feed_106 (by decide) ?_
            refine mv_iadd d_TrustDeskModel_feed_107 ?_
            obtain ⟨w487, h488, b489⟩ : ∃ w9 : Int32, (v478 + 1) = w9 ∧ w9.toInt = v478.toInt + 1 := ⟨_, rfl, mz_add2 rfl (by decide) (by omega) (by omega)⟩
            rw [h488]
            clear h488
            refine tr_putR (k := 14) I480 R482 h_q0_14 rfl ⟨_, rfl⟩ (fun _ h => by cases h) rfl (fun lo hi h => by cases h; have := R482.1 14 _ _ rfl; exact ⟨by show (0 : Int) ≤ w487.toInt; omega, by show w487.toInt ≤ (400 : Int); omega⟩) (Or.inl (by decide)) d_TrustDeskModel_feed_108 p_TrustDeskModel_189_13 rfl rfl (fun M490 I491 q492 K493 R494 A495 V496 => ?_)
            have z497 : rv M490 o0 14 = w487.toInt := tm_rv q492
            have X498 : pX M490 o0 (p_fk pb pn x1.toInt x2.toInt x3.toInt x4.toInt x5.toInt 20) (pn + 20) := iv2_14.put (u := (x5.toInt / 1 % 256)) (m := v478.toNatClampNeg) E483 (fun j => A495 13 (by decide) j) ((tm_rv q492).trans (by omega)) (by have := mz_nat9 (i := v478) (by omega); omega) (by omega) (by omega) (mz_sb0 x5)
            refine mv_iinc (v := 20) (lv' := [(6, .int 20), (7, .int x5), (0, .ref o0), (1, .int x1), (2, .int x2), (3, .int x3), (4, .int x4), (5, .int x5)]) d_TrustDeskModel_feed_111 rfl (by decide) (by decide) rfl ?_
            refine mv_goto (tgt := 23) d_TrustDeskModel_feed_114 (by decide) ?_
            have : (20 : Int32).toInt = 20 := by decide
            refine mv_locals (lv' := [(6, .int 20), (0, .ref o0), (1, .int x1), (2, .int x2), (3, .int x3), (4, .int x4), (5, .int x5)]) (by intro q hq; simp only [List.mem_cons, List.not_mem_nil, or_false] at hq; rcases hq with rfl | rfl | rfl | rfl | rfl | rfl | rfl <;> rfl) ?_
            exact (ih14 20 T_14 M490 n_14 I491 h_q0_14 (by have := R494.1 14 _ _ rfl; first | omega | decide | exact fun h9 => absurd (by decide) h9) (by have := R494.1 14 _ _ rfl; first | omega | decide | exact fun h9 => absurd (by decide) h9) (by rw [show ((20 : Int32).toInt).toNat = 20 from by decide]; exact X498) R494 (by have := R494.1 14 _ _ rfl; omega))
    have : (0 : Int32).toInt = 0 := by decide
    exact mv_less (Nat.zero_le _) (Nat.zero_le _) (L23_14 4294967296 0 T0 M1 n0 I2 h_o0 (by have := R5.1 14 _ _ rfl; first | omega | decide | exact fun h9 => absurd (by decide) h9) (by have := R5.1 14 _ _ rfl; first | omega | decide | exact fun h9 => absurd (by decide) h9) (by rw [show ((0 : Int32).toInt).toNat = 0 from by decide]; exact K9) R5 (by show (2147483647 - (0 : Int) : Int) < _; decide))
  · refine mv_iconst (v := (-1)) d_TrustDeskModel_feed_18 (by decide) ?_
    exact mv_iret d_TrustDeskModel_feed_19 rfl (by first | rfl | decide) ⟨_, I2, _, rfl, R5, (Or.inl ⟨by decide, by omega, K9⟩)⟩
def w_TrustDeskModel_lay_z : List Nat := [1300, 20066]
set_option maxHeartbeats 100000000 in theorem tc_TrustDeskModel_lay_z {g : mj_G} {l : Launch} {d : Nat} {T0 : tm_H} {M0 : mj_M} {n0 x9 : Nat} {o0 : Nat} {x1 : Int32} {x2 : Int32} (h_o0 : T0 o0 = some (0, 13, 0)) (yR : rI M0 o0) (I0 : tm_I tm_FT (tm_in w_TrustDeskModel_lay_z) x9 T0 M0 n0 T0 M0 n0) : mj_Met g l kY_TrustDeskModel_lay (d + 1) [.ref o0, .int x1, .int x2] M0 n0 0 0 (tm_Q tm_FT (tm_in w_TrustDeskModel_lay_z) x9 T0 M0 n0 (fun r _ M => ∃ v : Int32, r = some (.int v) ∧ 0 ≤ v.toInt ∧ v.toInt ≤ 1 ∧ rI M o0 ∧ ((v.toInt = 0 ∧ ¬ (0 ≤ x1.toInt ∧ x1.toInt < rv M0 o0 32 ∧ 0 ≤ x2.toInt ∧ x2.toInt ≤ 7)) ∨ (v.toInt = 1 ∧ (0 ≤ x1.toInt ∧ x1.toInt < rv M0 o0 32 ∧ 0 ≤ x2.toInt ∧ x2.toInt ≤ 7))))) := by
  refine mj_enter (by decide) (Nat.le_of_ble_eq_true rfl) ?_
  refine mv_aload_n d_TrustDeskModel_lay_0 rfl rfl ?_
  refine mv_iconst (v := 0) d_TrustDeskModel_lay_1 (by decide) ?_
  refine tr_putR (k := 0) I0 yR h_o0 rfl ⟨_, rfl⟩ (fun _ h => by cases h) rfl (fun lo hi h => by cases h) (Or.inl (by decide)) d_TrustDeskModel_lay_2 p_TrustDeskModel_1_13 rfl rfl (fun M1 I2 q3 K4 R5 A6 V7 => ?_)
  have z8 := (V7 32 (by decide))
  refine mv_aload_n d_TrustDeskModel_lay_5 rfl rfl ?_
  refine mv_iload_n d_TrustDeskModel_lay_6 rfl rfl ?_
  obtain ⟨_, b9, -⟩ := I2.1 _ _ h_o0
  refine mv_callV (kc1 := 0) (ks1 := 0) (kc' := 0) (ks' := 0) (As := [.int x1]) (st9 := [.int x1, .ref o0]) d_TrustDeskModel_lay_7 lV_TrustDeskModel_418 b9 rfl (mj_enter (by decide) (Nat.le_of_ble_eq_true rfl) ?_) rfl (Nat.le_of_ble_eq_true rfl) (Nat.le_of_ble_eq_true rfl) (Nat.le_of_ble_eq_true rfl) (hst := rfl) (fun _ _ _ h => h)
  refine mv_iload_n d_TrustDeskModel_isFund_0 rfl rfl ?_
  have := mz_hi x1
  refine mv_if_ltZ (tgt := 16) (a := x1.toInt) d_TrustDeskModel_isFund_1 (by decide) rfl (fun b10 => ?_) (fun b10 => ?_)
  · refine mv_iconst (v := 0) d_TrustDeskModel_isFund_16 (by decide) ?_
    refine mv_iret d_TrustDeskModel_isFund_17 rfl (by decide) ?_
    refine mv_if_eq_t (tgt := 25) d_TrustDeskModel_lay_10 (by decide) (by decide) ?_
    refine mv_iconst (v := 0) d_TrustDeskModel_lay_25 (by decide) ?_
    exact mv_iret d_TrustDeskModel_lay_26 rfl (by decide) ⟨_, I2, _, rfl, by decide, by decide, R5, (by have e9 : (0 : Int32).toInt = 0 := (by decide); have := R5.1 32 _ _ rfl; omega)⟩
  · refine mv_iload_n d_TrustDeskModel_isFund_4 rfl rfl ?_
    refine mv_aload_n d_TrustDeskModel_isFund_5 rfl rfl ?_
    obtain ⟨v12, q11⟩ := tm_atI I2 h_o0 (k := 32) rfl
    refine tr_getK q11 d_TrustDeskModel_isFund_6 f_TrustDeskModel_415_13 ?_
    have := R5.f (k := 32) q11 rfl
    have := (tm_rv q11).symm.trans z8
    have := tm_rv q11
    have := mz_hi x1
    have := mz_hi v12
    refine mv_icmp_geZ (tgt := 16) (a := x1.toInt) (b := v12.toInt) d_TrustDeskModel_isFund_9 (by decide) rfl rfl (fun b13 => ?_) (fun b13 => ?_)
    · refine mv_iconst (v := 0) d_TrustDeskModel_isFund_16 (by decide) ?_
      refine mv_iret d_TrustDeskModel_isFund_17 rfl (by decide) ?_
      refine mv_if_eq_t (tgt := 25) d_TrustDeskModel_lay_10 (by decide) (by decide) ?_
      refine mv_iconst (v := 0) d_TrustDeskModel_lay_25 (by decide) ?_
      exact mv_iret d_TrustDeskModel_lay_26 rfl (by decide) ⟨_, I2, _, rfl, by decide, by decide, R5, (by have e9 : (0 : Int32).toInt = 0 := (by decide); have := R5.1 32 _ _ rfl; omega)⟩
    · refine mv_iconst (v := 1) d_TrustDeskModel_isFund_12 (by decide) ?_
      refine mv_goto (tgt := 17) d_TrustDeskModel_isFund_13 (by decide) ?_
      refine mv_iret d_TrustDeskModel_isFund_17 rfl (by decide) ?_
      refine mv_if_eq_f (tgt := 25) d_TrustDeskModel_lay_10 (by decide) (by decide) ?_
      refine mv_iload_n d_TrustDeskModel_lay_13 rfl rfl ?_
      refine mv_i2l (v := x2.toInt64) d_TrustDeskModel_lay_14 rfl ?_
      refine mv_lconst (v := 0) d_TrustDeskModel_lay_15 (by decide) ?_
      refine mv_ldc2 d_TrustDeskModel_lay_16 k_TrustDeskModel_167 ?_
      refine mv_callS (kc1 := 0) (ks1 := 0) (kc' := 0) (ks' := 0) (As := [.long x2.toInt64, .long 0, .long 7]) (st9 := [.long 7, .long 0, .long x2.toInt64]) d_TrustDeskModel_lay_19 lS_TrustDeskModel_169 (mj_enter (by decide) (Nat.le_of_ble_eq_true rfl) ?_) rfl (Nat.le_of_ble_eq_true rfl) (Nat.le_of_ble_eq_true rfl) (Nat.le_of_ble_eq_true rfl) (hst := rfl) (fun _ _ _ h => h)
      refine mv_lload_n d_TrustDeskModel_within_0 rfl rfl ?_
      refine mv_lload_n d_TrustDeskModel_within_1 rfl rfl ?_
      refine mv_lltZ (tgt := 17) (a := x2.toInt) (b := 0) d_TrustDeskModel_within_2 d_TrustDeskModel_within_3 (by decide) (mz_wide _) (by decide) (fun b14 => ?_) (fun b14 => ?_)
      · refine mv_iconst (v := 0) d_TrustDeskModel_within_17 (by decide) ?_
        refine mv_iret d_TrustDeskModel_within_18 rfl (by decide) ?_
        refine mv_if_ne_f (tgt := 27) d_TrustDeskModel_lay_22 (by decide) (by decide) ?_
        refine mv_iconst (v := 0) d_TrustDeskModel_lay_25 (by decide) ?_
        exact mv_iret d_TrustDeskModel_lay_26 rfl (by decide) ⟨_, I2, _, rfl, by decide, by decide, R5, (by have e9 : (0 : Int32).toInt = 0 := (by decide); have := R5.1 32 _ _ rfl; omega)⟩
      · refine mv_lload_n d_TrustDeskModel_within_6 rfl rfl ?_
        refine mv_lload d_TrustDeskModel_within_7 rfl ?_
        refine mv_lgtZ (tgt := 17) (a := x2.toInt) (b := 7) d_TrustDeskModel_within_9 d_TrustDeskModel_within_10 (by decide) (mz_wide _) (by decide) (fun b15 => ?_) (fun b15 => ?_)
        · refine mv_iconst (v := 0) d_TrustDeskModel_within_17 (by decide) ?_
          refine mv_iret d_TrustDeskModel_within_18 rfl (by decide) ?_
          refine mv_if_ne_f (tgt := 27) d_TrustDeskModel_lay_22 (by decide) (by decide) ?_
          refine mv_iconst (v := 0) d_TrustDeskModel_lay_25 (by decide) ?_
          exact mv_iret d_TrustDeskModel_lay_26 rfl (by decide) ⟨_, I2, _, rfl, by decide, by decide, R5, (by have e9 : (0 : Int32).toInt = 0 := (by decide); have := R5.1 32 _ _ rfl; omega)⟩
        · refine mv_iconst (v := 1) d_TrustDeskModel_within_13 (by decide) ?_
          refine mv_goto (tgt := 18) d_TrustDeskModel_within_14 (by decide) ?_
          refine mv_iret d_TrustDeskModel_within_18 rfl (by decide) ?_
          refine mv_if_ne_t (tgt := 27) d_TrustDeskModel_lay_22 (by decide) (by decide) ?_
          refine mv_aload_n d_TrustDeskModel_lay_27 rfl rfl ?_
          obtain ⟨a17, q16, t_a17⟩ := tm_atR I2 h_o0 (k := 66) rfl
          refine tr_getK q16 d_TrustDeskModel_lay_28 f_TrustDeskModel_158_13 ?_
          refine mv_iload_n d_TrustDeskModel_lay_31 rfl rfl ?_
          refine mv_iload_n d_TrustDeskModel_lay_32 rfl rfl ?_
          refine tr_iastR (k := 66) I2 R5 (I2.up h_o0) q16 t_a17 (by decide) (by decide) (fun lo hi h => by cases h) (Or.inl (by decide)) d_TrustDeskModel_lay_33 (vp_in_iff.mpr (by have := R5.1 32 _ _ rfl; omega)) (fun M18 I19 K20 R21 E22 A23 V24 => ?_)
          have z25 := (V24 32).trans z8
          clear z8
          refine mv_iconst (v := 1) d_TrustDeskModel_lay_34 (by decide) ?_
          exact mv_iret d_TrustDeskModel_lay_35 rfl (by decide) ⟨_, I19, _, rfl, by decide, by decide, R21, (by have e9 : (1 : Int32).toInt = 1 := (by decide); have := R21.1 32 _ _ rfl; omega)⟩
