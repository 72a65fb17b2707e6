def w_TrustDeskModel_end_z : List Nat := [1300, 1314]
set_option maxHeartbeats 100000000 in theorem tc_TrustDeskModel_end_z {g : mj_G} {l : Launch} {d : Nat} {T0 : tm_H} {M0 : mj_M} {n0 x9 : Nat} {o0 : Nat} {x1 : Int32} (h_o0 : T0 o0 = some (0, 13, 0)) (yR : rI M0 o0) (I0 : tm_I tm_FT (tm_in w_TrustDeskModel_end_z) x9 T0 M0 n0 T0 M0 n0) : mj_Met g l kY_TrustDeskModel_end d [.ref o0, .int x1] M0 n0 0 0 (tm_Q tm_FT (tm_in w_TrustDeskModel_end_z) x9 T0 M0 n0 (fun r _ M => ∃ v : Int32, r = some (.int v) ∧ rI M o0 ∧ ((v.toInt = -1 ∧ ¬ (0 ≤ x1.toInt ∧ x1.toInt ≤ rv M0 o0 14) ∧ rv M o0 14 = rv M0 o0 14) ∨ (v.toInt = x1.toInt ∧ (0 ≤ x1.toInt ∧ x1.toInt ≤ rv M0 o0 14) ∧ rv M o0 14 = x1.toInt)))) := by
  refine mj_enter (by decide) (Nat.le_of_ble_eq_true rfl) ?_
  refine mv_aload_n d_TrustDeskModel_end_0 rfl rfl ?_
  refine mv_iconst (v := 0) d_TrustDeskModel_end_1 (by decide) ?_
  refine tr_putR (k := 0) I0 yR h_o0 rfl ⟨_, rfl⟩ (fun _ h => by cases h) rfl (fun lo hi h => by cases h) (Or.inl (by decide)) d_TrustDeskModel_end_2 p_TrustDeskModel_1_13 rfl rfl (fun M1 I2 q3 K4 R5 A6 V7 => ?_)
  have z8 := (V7 14 (by decide))
  refine mv_iload_n d_TrustDeskModel_end_5 rfl rfl ?_
  have := mz_hi x1
  refine mv_if_ltZ (tgt := 17) (a := x1.toInt) d_TrustDeskModel_end_6 (by decide) rfl (fun b9 => ?_) (fun b9 => ?_)
  · refine mv_iconst (v := (-1)) d_TrustDeskModel_end_17 (by decide) ?_
    exact mv_iret d_TrustDeskModel_end_18 rfl (by first | rfl | decide) ⟨_, I2, _, rfl, R5, (by have e9 : ((-1) : Int32).toInt = (-1) := (by decide); have := R5.1 14 _ _ rfl; omega)⟩
  · refine mv_iload_n d_TrustDeskModel_end_9 rfl rfl ?_
    refine mv_aload_n d_TrustDeskModel_end_10 rfl rfl ?_
    obtain ⟨v11, q10⟩ := tm_atI I2 h_o0 (k := 14) rfl
    refine tr_getK q10 d_TrustDeskModel_end_11 f_TrustDeskModel_189_13 ?_
    have := R5.f (k := 14) q10 rfl
    have := (tm_rv q10).symm.trans z8
    have := tm_rv q10
    have := mz_hi x1
    have := mz_hi v11
    refine mv_icmp_leZ (tgt := 19) (a := x1.toInt) (b := v11.toInt) d_TrustDeskModel_end_14 (by decide) rfl rfl (fun b12 => ?_) (fun b12 => ?_)
    · refine mv_aload_n d_TrustDeskModel_end_19 rfl rfl ?_
      refine mv_iload_n d_TrustDeskModel_end_20 rfl rfl ?_
      refine tr_putR (k := 14) I2 R5 h_o0 rfl ⟨_, rfl⟩ (fun _ h => by cases h) rfl (fun lo hi h => by cases h; have := R5.1 14 _ _ rfl; exact ⟨by show (0 : Int) ≤ x1.toInt; omega, by show x1.toInt ≤ (400 : Int); omega⟩) (Or.inl (by decide)) d_TrustDeskModel_end_21 p_TrustDeskModel_189_13 rfl rfl (fun M13 I14 q15 K16 R17 A18 V19 => ?_)
      have z20 : rv M13 o0 14 = x1.toInt := tm_rv q15
      refine mv_iload_n d_TrustDeskModel_end_24 rfl rfl ?_
      exact mv_iret d_TrustDeskModel_end_25 rfl (by first | rfl | decide) ⟨_, I14, _, rfl, R17, (by have := R17.1 14 _ _ rfl; omega)⟩
    · refine mv_iconst (v := (-1)) d_TrustDeskModel_end_17 (by decide) ?_
      exact mv_iret d_TrustDeskModel_end_18 rfl (by first | rfl | decide) ⟨_, I2, _, rfl, R5, (by have e9 : ((-1) : Int32).toInt = (-1) := (by decide); have := R5.1 14 _ _ rfl; omega)⟩
def w_TrustDeskModel_place_z : List Nat := [1300]
set_option maxHeartbeats 100000000 in theorem tc_TrustDeskModel_place_z {g : mj_G} {l : Launch} {d : Nat} {T0 : tm_H} {M0 : mj_M} {n0 x9 : Nat} {o0 : Nat} (h_o0 : T0 o0 = some (0, 13, 0)) (yR : rI M0 o0) (I0 : tm_I tm_FT (tm_in w_TrustDeskModel_place_z) x9 T0 M0 n0 T0 M0 n0) : mj_Met g l kY_TrustDeskModel_place d [.ref o0] M0 n0 0 0 (tm_Q tm_FT (tm_in w_TrustDeskModel_place_z) x9 T0 M0 n0 (fun r _ M => ∃ v : Int32, r = some (.int v) ∧ rI M o0 ∧ (v.toInt = rv M0 o0 21))) := by
  refine mj_enter (by decide) (Nat.le_of_ble_eq_true rfl) ?_
  refine mv_aload_n d_TrustDeskModel_place_0 rfl rfl ?_
  refine mv_iconst (v := 0) d_TrustDeskModel_place_1 (by decide) ?_
  refine tr_putR (k := 0) I0 yR h_o0 rfl ⟨_, rfl⟩ (fun _ h => by cases h) rfl (fun lo hi h => by cases h) (Or.inl (by decide)) d_TrustDeskModel_place_2 p_TrustDeskModel_1_13 rfl rfl (fun M1 I2 q3 K4 R5 A6 V7 => ?_)
  have z8 := (V7 21 (by decide))
  refine mv_aload_n d_TrustDeskModel_place_5 rfl rfl ?_
  obtain ⟨v10, q9⟩ := tm_atI I2 h_o0 (k := 21) rfl
  refine tr_getK q9 d_TrustDeskModel_place_6 f_TrustDeskModel_48_13 ?_
  have := (tm_rv q9).symm.trans z8
  have := tm_rv q9
  exact mv_iret d_TrustDeskModel_place_9 rfl (by first | rfl | decide) ⟨_, I2, _, rfl, R5, (by omega)⟩
def w_TrustDeskModel_feed_z : List Nat := [1300, 1314, 20013]
set_option maxHeartbeats 100000000 in theorem tc_TrustDeskModel_feed_z {g : mj_G} {l : Launch} {d : Nat} {T0 : tm_H} {M0 : mj_M} {n0 x9 : Nat} {o0 : Nat} {x1 : Int32} {x2 : Int32} {x3 : Int32} {x4 : Int32} {x5 : Int32} (h_o0 : T0 o0 = some (0, 13, 0)) (yR : rI M0 o0) {pb : Nat → Int} {pn : Nat} (yXT : pX M0 o0 pb pn) (I0 : tm_I tm_FT (tm_in w_TrustDeskModel_feed_z) x9 T0 M0 n0 T0 M0 n0) : mj_Met g l kY_TrustDeskModel_feed d [.ref o0, .int x1, .int x2, .int x3, .int x4, .int x5] M0 n0 0 0 (tm_Q tm_FT (tm_in w_TrustDeskModel_feed_z) x9 T0 M0 n0 (fun r _ M => ∃ v : Int32, r = some (.int v) ∧ rI M o0 ∧ (v.toInt = -1 ∧ 380 < pn ∧ pX M o0 pb pn ∨ v.toInt = (pn : Int) + 20 ∧ pn ≤ 380 ∧ pX M o0 (p_f20 pb pn x1.toInt x2.toInt x3.toInt x4.toInt x5.toInt) (pn + 20)))) := by
  refine mj_enter (by decide) (Nat.le_of_ble_eq_true rfl) ?_
  refine mv_aload_n d_TrustDeskModel_feed_0 rfl rfl ?_
  refine mv_iconst (v := 0) d_TrustDeskModel_feed_1 (by decide) ?_
  refine tr_putR (k := 0) I0 yR h_o0 rfl ⟨_, rfl⟩ (fun _ h => by cases h) rfl (fun lo hi h => by cases h) (Or.inl (by decide)) d_TrustDeskModel_feed_2 p_TrustDeskModel_1_13 rfl rfl (fun M1 I2 q3 K4 R5 A6 V7 => ?_)
  have z8 := (V7 14 (by decide))
  have K9 : pX M1 o0 pb pn := yXT.same (sA_f A6 (by decide)) (sF_f V7 (by decide))
  refine mv_aload_n d_TrustDeskModel_feed_5 rfl rfl ?_
  obtain ⟨v11, q10⟩ := tm_atI I2 h_o0 (k := 14) rfl
  refine tr_getK q10 d_TrustDeskModel_feed_6 f_TrustDeskModel_189_13 ?_
  have := R5.f (k := 14) q10 rfl
  have := (tm_rv q10).symm.trans z8
  have := tm_rv q10
  refine mv_bipush (v := 20) d_TrustDeskModel_feed_9 (by decide) ?_
  have := yXT.1
  have := yXT.2.1
  refine mv_iadd d_TrustDeskModel_feed_11 ?_
  refine mv_sipush (v := 400) d_TrustDeskModel_feed_12 (by decide) ?_
  have b12 : (v11 + 20 : Int32).toInt = (v11.toInt + 20) := mz_add2 rfl (by decide) (by have := R5.1 14 _ _ rfl; omega) (by have := R5.1 14 _ _ rfl; omega)
  have := mz_hi (v11 + 20)
  refine mv_icmp_leZ (tgt := 20) (a := (v11 + 20).toInt) (b := 400) d_TrustDeskModel_feed_15 (by decide) rfl (by decide) (fun b13 => ?_) (fun b13 => ?_)
  · refine mv_iconst (v := 0) d_TrustDeskModel_feed_20 (by decide) ?_
    refine mv_istore (lv' := [(6, .int 0), (0, .ref o0), (1, .int x1), (2, .int x2), (3, .int x3), (4, .int x4), (5, .int x5)]) d_TrustDeskModel_feed_21 (by decide) rfl ?_
    have L23_14 : ∀ (k : Nat) (i6_14 : Int32) (T_14 : tm_H) (M_14 : mj_M) (n_14 : Nat), tm_I tm_FT (tm_in w_TrustDeskModel_feed_z) x9 T0 M0 n0 T_14 M_14 n_14 → T_14 o0 = some (0, 13, 0) → 0 ≤ i6_14.toInt → i6_14.toInt ≤ 20 → pX M_14 o0 (p_fk pb pn x1.toInt x2.toInt x3.toInt x4.toInt x5.toInt (i6_14.toInt).toNat) (pn + (i6_14.toInt).toNat) → (rI M_14 o0) → 2147483647 - i6_14.toInt < (k : Int) → mj_V g l kY_TrustDeskModel_feed d 23 [(6, .int i6_14), (0, .ref o0), (1, .int x1), (2, .int x2), (3, .int x3), (4, .int x4), (5, .int x5)] [] M_14 n_14 0 0 (tm_Q tm_FT (tm_in w_TrustDeskModel_feed_z) x9 T0 M0 n0 (fun r _ M => ∃ v : Int32, r = some (.int v) ∧ rI M o0 ∧ (v.toInt = -1 ∧ 380 < pn ∧ pX M o0 pb pn ∨ v.toInt = (pn : Int) + 20 ∧ pn ≤ 380 ∧ pX M o0 (p_f20 pb pn x1.toInt x2.toInt x3.toInt x4.toInt x5.toInt) (pn + 20)))) := by
      intro k14
      induction k14 with
      | zero =>
        intro i6_14 T_14 M_14 n_14 I_14 h_q0_14 iv0_14 iv1_14 iv2_14 kKR_14 hk14
        have := mz_hi i6_14
        have := kKR_14.1 15 _ _ rfl
        have := kKR_14.1 16 _ _ rfl
        have := kKR_14.1 19 _ _ rfl
        omega
      | succ k14 ih14 =>
        intro i6_14 T_14 M_14 n_14 I_14 h_q0_14 iv0_14 iv1_14 iv2_14 kKR_14 hk14
        have := iv2_14.1
        refine mv_iload d_TrustDeskModel_feed_23 rfl ?_
        refine mv_bipush (v := 20) d_TrustDeskModel_feed_25 (by decide) ?_
        have := mz_hi i6_14
        refine mv_icmp_geZ (tgt := 117) (a := i6_14.toInt) (b := 20) d_TrustDeskModel_feed_27 (by decide) rfl (by decide) (fun b15 => ?_) (fun b15 => ?_)
        · refine mv_aload_n d_TrustDeskModel_feed_117 rfl rfl ?_
          obtain ⟨v17, q16⟩ := tm_atI I_14 h_q0_14 (k := 14) rfl
          refine tr_getK q16 d_TrustDeskModel_feed_118 f_TrustDeskModel_189_13 ?_
          have := kKR_14.f (k := 14) q16 rfl
          have := tm_rv q16
          exact mv_iret d_TrustDeskModel_feed_121 rfl (by first | rfl | decide) ⟨_, I_14, _, rfl, kKR_14, (Or.inr ⟨by have := iv2_14.1; omega, by omega, by have e9 := iv2_14; rw [show (i6_14.toInt).toNat = 20 from by omega] at e9; rw [p_f20_fk]; exact e9⟩)⟩
        · rcases (show i6_14.toInt = 0 ∨ i6_14.toInt = 1 ∨ i6_14.toInt = 2 ∨ i6_14.toInt = 3 ∨ i6_14.toInt = 4 ∨ i6_14.toInt = 5 ∨ i6_14.toInt = 6 ∨ i6_14.toInt = 7 ∨ i6_14.toInt = 8 ∨ i6_14.toInt = 9 ∨ i6_14.toInt = 10 ∨ i6_14.toInt = 11 ∨ i6_14.toInt = 12 ∨ i6_14.toInt = 13 ∨ i6_14.toInt = 14 ∨ i6_14.toInt = 15 ∨ i6_14.toInt = 16 ∨ i6_14.toInt = 17 ∨ i6_14.toInt = 18 ∨ i6_14.toInt = 19 by omega) with b18 | b18 | b18 | b18 | b18 | b18 | b18 | b18 | b18 | b18 | b18 | b18 | b18 | b18 | b18 | b18 | b18 | b18 | b18 | b18
          · obtain rfl : i6_14 = (0 : Int32) := Int32.toInt_inj.mp (b18.trans (by decide))
            have : (0 : Int32).toInt = 0 := by decide
            have : (1 : Int32).toInt = 1 := by decide
            rw [show ((0 : Int32).toInt).toNat = 0 from by decide] at iv2_14
            refine mv_iload d_TrustDeskModel_feed_30 rfl ?_
            refine mv_iconst (v := 4) d_TrustDeskModel_feed_32 (by decide) ?_
            refine mv_icmp_ge_f (tgt := 40) d_TrustDeskModel_feed_33 (by decide) (by decide) ?_
            refine mv_iload_n d_TrustDeskModel_feed_36 rfl rfl ?_
            refine mv_goto (tgt := 76) d_TrustDeskModel_feed_37 (by decide) ?_
            refine mv_istore (lv' := [(7, .int x1), (6, .int 0), (0, .ref o0), (1, .int x1), (2, .int x2), (3, .int x3), (4, .int x4), (5, .int x5)]) d_TrustDeskModel_feed_76 (by decide) rfl ?_
            refine mv_aload_n d_TrustDeskModel_feed_78 rfl rfl ?_
            obtain ⟨a20, q19, t_a20⟩ := tm_atR I_14 h_q0_14 (k := 13) rfl
            refine tr_getK q19 d_TrustDeskModel_feed_79 f_TrustDeskModel_44_13 ?_
            refine mv_aload_n d_TrustDeskModel_feed_82 rfl rfl ?_
            obtain ⟨v22, q21⟩ := tm_atI I_14 h_q0_14 (k := 14) rfl
            refine tr_getK q21 d_TrustDeskModel_feed_83 f_TrustDeskModel_189_13 ?_
            have := kKR_14.f (k := 14) q21 rfl
            have := tm_rv q21
            refine mv_iload d_TrustDeskModel_feed_86 rfl ?_
            refine mv_bipush (v := 24) d_TrustDeskModel_feed_88 (by decide) ?_
            refine mv_bipush (v := 8) d_TrustDeskModel_feed_90 (by decide) ?_
            refine mv_iload d_TrustDeskModel_feed_92 rfl ?_
            refine mv_iconst (v := 4) d_TrustDeskModel_feed_94 (by decide) ?_
            refine mv_iremv (v := 0) d_TrustDeskModel_feed_95 (by decide) (by decide) ?_
            refine mv_imulv (v := 0) d_TrustDeskModel_feed_96 (by decide) ?_
            refine mv_isubv (v := 24) d_TrustDeskModel_feed_97 (by decide) ?_
            refine mv_ishr d_TrustDeskModel_feed_98 ?_
            refine mv_i2b (v := (x1 >>> (24 &&& 31)).toInt8.toInt32) d_TrustDeskModel_feed_99 rfl ?_
            refine tr_bastE (k := 13) I_14 kKR_14 (I_14.up h_o0) q19 t_a20 (by decide) (by decide) (fun lo hi h => by cases h; exact mz_nar9 _) (Or.inl (by decide)) d_TrustDeskModel_feed_100 (vp_in_iff.mpr (by omega)) (fun M23 I24 K25 R26 E27 A28 V29 => ?_)
            have z30 := (V29 14)
            refine mv_aload_n d_TrustDeskModel_feed_101 rfl rfl ?_
            refine mv_dup d_TrustDeskModel_feed_102 rfl ?_
            refine tr_getK (k := 14) (K25 _ 13 14 _ q21) d_TrustDeskModel_feed_103 f_TrustDeskModel_189_13 ?_
            refine mv_iconst (v := 1) d_TrustDeskModel_feed_106 (by decide) ?_
            refine mv_iadd d_TrustDeskModel_feed_107 ?_
            obtain ⟨w31, h32, b33⟩ : ∃ w9 : Int32, (v22 + 1) = w9 ∧ w9.toInt = v22.toInt + 1 := ⟨_, rfl, mz_add2 rfl (by decide) (by omega) (by omega)⟩
            rw [h32]
            clear h32
            refine tr_putR (k := 14) I24 R26 h_q0_14 rfl ⟨_, rfl⟩ (fun _ h => by cases h) rfl (fun lo hi h => by cases h; have := R26.1 14 _ _ rfl; exact ⟨by show (0 : Int) ≤ w31.toInt; omega, by show w31.toInt ≤ (400 : Int); omega⟩) (Or.inl (by decide)) d_TrustDeskModel_feed_108 p_TrustDeskModel_189_13 rfl rfl (fun M34 I35 q36 K37 R38 A39 V40 => ?_)
            have z41 : rv M34 o0 14 = w31.toInt := tm_rv q36
            have X42 : pX M34 o0 (p_fk pb pn x1.toInt x2.toInt x3.toInt x4.toInt x5.toInt 1) (pn + 1) := iv2_14.put (u := (x1.toInt / 16777216 % 256)) (m := v22.toNatClampNeg) E27 (fun j => A39 13 (by decide) j) ((tm_rv q36).trans (by omega)) (by have := mz_nat9 (i := v22) (by omega); omega) (by omega) (by omega) (mz_sb24 x1)
            refine mv_iinc (v := 1) (lv' := [(6, .int 1), (7, .int x1), (0, .ref o0), (1, .int x1), (2, .int x2), (3, .int x3), (4, .int x4), (5, .int x5)]) d_TrustDeskModel_feed_111 rfl (by decide) (by decide) rfl ?_
            refine mv_goto (tgt := 23) d_TrustDeskModel_feed_114 (by decide) ?_
            have : (1 : Int32).toInt = 1 := by decide
            refine mv_locals (lv' := [(6, .int 1), (0, .ref o0), (1, .int x1), (2, .int x2), (3, .int x3), (4, .int x4), (5, .int x5)]) (by intro q hq; simp only [List.mem_cons, List.not_mem_nil, or_false] at hq; rcases hq with rfl | rfl | rfl | rfl | rfl | rfl | rfl <;> rfl) ?_
            exact (ih14 1 T_14 M34 n_14 I35 h_q0_14 (by have := R38.1 14 _ _ rfl; first | omega | decide | exact fun h9 => absurd (by decide) h9) (by have := R38.1 14 _ _ rfl; first | omega | decide | exact fun h9 => absurd (by decide) h9) (by rw [show ((1 : Int32).toInt).toNat = 1 from by decide]; exact X42) R38 (by have := R38.1 14 _ _ rfl; omega))
          · obtain rfl : i6_14 = (1 : Int32) := Int32.toInt_inj.mp (b18.trans (by decide))
            have : (1 : Int32).toInt = 1 := by decide
            have : (2 : Int32).toInt = 2 := by decide
            rw [show ((1 : Int32).toInt).toNat = 1 from by decide] at iv2_14
            refine mv_iload d_TrustDeskModel_feed_30 rfl ?_
            refine mv_iconst (v := 4) d_TrustDeskModel_feed_32 (by decide) ?_
            refine mv_icmp_ge_f (tgt := 40) d_TrustDeskModel_feed_33 (by decide) (by decide) ?_
            refine mv_iload_n d_TrustDeskModel_feed_36 rfl rfl ?_
            refine mv_goto (tgt := 76) d_TrustDeskModel_feed_37 (by decide) ?_
            refine mv_istore (lv' := [(7, .int x1), (6, .int 1), (0, .ref o0), (1, .int x1), (2, .int x2), (3, .int x3), (4, .int x4), (5, .int x5)]) d_TrustDeskModel_feed_76 (by decide) rfl ?_
            refine mv_aload_n d_TrustDeskModel_feed_78 rfl rfl ?_
            obtain ⟨a44, q43, t_a44⟩ := tm_atR I_14 h_q0_14 (k := 13) rfl
            refine tr_getK q43 d_TrustDeskModel_feed_79 f_TrustDeskModel_44_13 ?_
            refine mv_aload_n d_TrustDeskModel_feed_82 rfl rfl ?_
            obtain ⟨v46, q45⟩ := tm_atI I_14 h_q0_14 (k := 14) rfl
            refine tr_getK q45 d_TrustDeskModel_feed_83 f_TrustDeskModel_189_13 ?_
            have := kKR_14.f (k := 14) q45 rfl
            have := tm_rv q45
            refine mv_iload d_TrustDeskModel_feed_86 rfl ?_
            refine mv_bipush (v := 24) d_TrustDeskModel_feed_88 (by decide) ?_
            refine mv_bipush (v := 8) d_TrustDeskModel_feed_90 (by decide) ?_
            refine mv_iload d_TrustDeskModel_feed_92 rfl ?_
            refine mv_iconst (v := 4) d_TrustDeskModel_feed_94 (by decide) ?_
            refine mv_iremv (v := 1) d_TrustDeskModel_feed_95 (by decide) (by decide) ?_
            refine mv_imulv (v := 8) d_TrustDeskModel_feed_96 (by decide) ?_
            refine mv_isubv (v := 16) d_TrustDeskModel_feed_97 (by decide) ?_
            refine mv_ishr d_TrustDeskModel_feed_98 ?_
            refine mv_i2b (v := (x1 >>> (16 &&& 31)).toInt8.toInt32) d_TrustDeskModel_feed_99 rfl ?_
            refine tr_bastE (k := 13) I_14 kKR_14 (I_14.up h_o0) q43 t_a44 (by decide) (by decide) (fun lo hi h => by cases h; exact mz_nar9 _) (Or.inl (by decide)) d_TrustDeskModel_feed_100 (vp_in_iff.mpr (by omega)) (fun M47 I48 K49 R50 E51 A52 V53 => ?_)
            have z54 := (V53 14)
            refine mv_aload_n d_TrustDeskModel_feed_101 rfl rfl ?_
            refine mv_dup d_TrustDeskModel_feed_102 rfl ?_
            refine tr_getK (k := 14) (K49 _ 13 14 _ q45) d_TrustDeskModel_feed_103 f_TrustDeskModel_189_13 ?_
            refine mv_iconst (v := 1) d_TrustDeskModel_feed_106 (by decide) ?_
            refine mv_iadd d_TrustDeskModel_feed_107 ?_
            obtain ⟨w55, h56, b57⟩ : ∃ w9 : Int32, (v46 + 1) = w9 ∧ w9.toInt = v46.toInt + 1 := ⟨_, rfl, mz_add2 rfl (by decide) (by omega) (by omega)⟩
            rw [h56]
            clear h56
            refine tr_putR (k := 14) I48 R50 h_q0_14 rfl ⟨_, rfl⟩ (fun _ h => by cases h) rfl (fun lo hi h => by cases h; have := R50.1 14 _ _ rfl; exact ⟨by show (0 : Int) ≤ w55.toInt; omega, by show w55.toInt ≤ (400 : Int); omega⟩) (Or.inl (by decide)) d_TrustDeskModel_feed_108 p_TrustDeskModel_189_13 rfl rfl (fun M58 I59 q60 K61 R62 A63 V64 => ?_)
            have z65 : rv M58 o0 14 = w55.toInt := tm_rv q60
            have X66 : pX M58 o0 (p_fk pb pn x1.toInt x2.toInt x3.toInt x4.toInt x5.toInt 2) (pn + 2) := iv2_14.put (u := (x1.toInt / 65536 % 256)) (m := v46.toNatClampNeg) E51 (fun j => A63 13 (by decide) j) ((tm_rv q60).trans (by omega)) (by have := mz_nat9 (i := v46) (by omega); omega) (by omega) (by omega) (mz_sb16 x1)
            refine mv_iinc (v := 2) (lv' := [(6, .int 2), (7, .int x1), (0, .ref o0), (1, .int x1), (2, .int x2), (3, .int x3), (4, .int x4), (5, .int x5)]) d_TrustDeskModel_feed_111 rfl (by decide) (by decide) rfl ?_
            refine mv_goto (tgt := 23) d_TrustDeskModel_feed_114 (by decide) ?_
            have : (2 : Int32).toInt = 2 := by decide
            refine mv_locals (lv' := [(6, .int 2), (0, .ref o0), (1, .int x1), (2, .int x2), (3, .int x3), (4, .int x4), (5, .int x5)]) (by intro q hq; simp only [List.mem_cons, List.not_mem_nil, or_false] at hq; rcases hq with rfl | rfl | rfl | rfl | rfl | rfl | rfl <;> rfl) ?_
            exact (ih14 2 T_14 M58 n_14 I59 h_q0_14 (by have := R62.1 14 _ _ rfl; first | omega | decide | exact fun h9 => absurd (by decide) h9) (by have := R62.1 14 _ _ rfl; first | omega | decide | exact fun h9 => absurd (by decide) h9) (by rw [show ((2 : Int32).toInt).toNat = 2 from by decide]; exact X66) R62 (by have := R62.1 14 _ _ rfl; omega))
          · obtain rfl : i6_14 = (2 : Int32) := Int32.toInt_inj.mp (b18.trans (by decide))
            have : (2 : Int32).toInt = 2 := by decide
            have : (3 : Int32).toInt = 3 := by decide
            rw [show ((2 : Int32).toInt).toNat = 2 from by decide] at iv2_14
            refine mv_iload d_TrustDeskModel_feed_30 rfl ?_
            refine mv_iconst (v := 4) d_TrustDeskModel_feed_32 (by decide) ?_
            refine mv_icmp_ge_f (tgt := 40) d_TrustDeskModel_feed_33 (by decide) (by decide) ?_
            refine mv_iload_n d_TrustDeskModel_feed_36 rfl rfl ?_
            refine mv_goto (tgt := 76) d_TrustDeskModel_feed_37 (by decide) ?_
            refine mv_istore (lv' := [(7, .int x1), (6, .int 2), (0, .ref o0), (1, .int x1), (2, .int x2), (3, .int x3), (4, .int x4), (5, .int x5)]) d_TrustDeskModel_feed_76 (by decide) rfl ?_
            refine mv_aload_n d_TrustDeskModel_feed_78 rfl rfl ?_
            obtain ⟨a68, q67, t_a68⟩ := tm_atR I_14 h_q0_14 (k := 13) rfl
            refine tr_getK q67 d_TrustDeskModel_feed_79 f_TrustDeskModel_44_13 ?_
            refine mv_aload_n d_TrustDeskModel_feed_82 rfl rfl ?_
            obtain ⟨v70, q69⟩ := tm_atI I_14 h_q0_14 (k := 14) rfl
            refine tr_getK q69 d_TrustDeskModel_feed_83 f_TrustDeskModel_189_13 ?_
            have := kKR_14.f (k := 14) q69 rfl
            have := tm_rv q69
            refine mv_iload d_TrustDeskModel_feed_86 rfl ?_
            refine mv_bipush (v := 24) d_TrustDeskModel_feed_88 (by decide) ?_
            refine mv_bipush (v := 8) d_TrustDeskModel_feed_90 (by decide) ?_
            refine mv_iload d_TrustDeskModel_feed_92 rfl ?_
            refine mv_iconst (v := 4) d_TrustDeskModel_feed_94 (by decide) ?_
            refine mv_iremv (v := 2) d_TrustDeskModel_feed_95 (by decide) (by decide) ?_
            refine mv_imulv (v := 16) d_TrustDeskModel_feed_96 (by decide) ?_
            refine mv_isubv (v := 8) d_TrustDeskModel_feed_97 (by decide) ?_
            refine mv_ishr d_TrustDeskModel_feed_98 ?_
            refine mv_i2b (v := (x1 >>> (8 &&& 31)).toInt8.toInt32) d_TrustDeskModel_feed_99 rfl ?_
            refine tr_bastE (k := 13) I_14 kKR_14 (I_14.up h_o0) q67 t_a68 (by decide) (by decide) (fun lo hi h => by cases h; exact mz_nar9 _) (Or.inl (by decide)) d_TrustDeskModel_feed_100 (vp_in_iff.mpr (by omega)) (fun M71 I72 K73 R74 E75 A76 V77 => ?_)
            have z78 := (V77 14)
            refine mv_aload_n d_TrustDeskModel_feed_101 rfl rfl ?_
            refine mv_dup d_TrustDeskModel_feed_102 rfl ?_
            refine tr_getK (k := 14) (K73 _ 13 14 _ q69) d_TrustDeskModel_feed_103 f_TrustDeskModel_189_13 ?_
            refine mv_iconst (v := 1) d_TrustDeskModel_feed_106 (by decide) ?_
            refine mv_iadd d_TrustDeskModel_feed_107 ?_
            obtain ⟨w79, h80, b81⟩ : ∃ w9 : Int32, (v70 + 1) = w9 ∧ w9.toInt = v70.toInt + 1 := ⟨_, rfl, mz_add2 rfl (by decide) (by omega) (by omega)⟩
            rw [h80]
            clear h80
            refine tr_putR (k := 14) I72 R74 h_q0_14 rfl ⟨_, rfl⟩ (fun _ h => by cases h) rfl (fun lo hi h => by cases h; have := R74.1 14 _ _ rfl; exact ⟨by show (0 : Int) ≤ w79.toInt; omega, by show w79.toInt ≤ (400 : Int); omega⟩) (Or.inl (by decide)) d_TrustDeskModel_feed_108 p_TrustDeskModel_189_13 rfl rfl (fun M82 I83 q84 K85 R86 A87 V88 => ?_)
            have z89 : rv M82 o0 14 = w79.toInt := tm_rv q84
            have X90 : pX M82 o0 (p_fk pb pn x1.toInt x2.toInt x3.toInt x4.toInt x5.toInt 3) (pn + 3) := iv2_14.put (u := (x1.toInt / 256 % 256)) (m := v70.toNatClampNeg) E75 (fun j => A87 13 (by decide) j) ((tm_rv q84).trans (by omega)) (by have := mz_nat9 (i := v70) (by omega); omega) (by omega) (by omega) (mz_sb8 x1)
            refine mv_iinc (v := 3) (lv' := [(6, .int 3), (7, .int x1), (0, .ref o0), (1, .int x1), (2, .int x2), (3, .int x3), (4, .int x4), (5, .int x5)]) d_TrustDeskModel_feed_111 rfl (by decide) (by decide) rfl ?_
            refine mv_goto (tgt := 23) d_TrustDeskModel_feed_114 (by decide) ?_
            have : (3 : Int32).toInt = 3 := by decide
            refine mv_locals (lv' := [(6, .int 3), (0, .ref o0), (1, .int x1), (2, .int x2), (3, .int x3), (4, .int x4), (5, .int x5)]) (by intro q hq; simp only [List.mem_cons, List.not_mem_nil, or_false] at hq; rcases hq with rfl | rfl | rfl | rfl | rfl | rfl | rfl <;> rfl) ?_
            exact (ih14 3 T_14 M82 n_14 I83 h_q0_14 (by have := R86.1 14 _ _ rfl; first | omega | decide | exact fun h9 => absurd (by decide) h9) (by have := R86.1 14 _ _ rfl; first | omega | decide | exact fun h9 => absurd (by decide) h9) (by rw [show ((3 : Int32).toInt).toNat = 3 from by decide]; exact X90) R86 (by have := R86.1 14 _ _ rfl; omega))
          · obtain rfl : i6_14 = (3 : Int32) := Int32.toInt_inj.mp (b18.trans (by decide))
            have : (3 : Int32).toInt = 3 := by decide
            have : (4 : Int32).toInt = 4 := by decide
            rw [show ((3 : Int32).toInt).toNat = 3 from by decide] at iv2_14
            refine mv_iload d_TrustDeskModel_feed_30 rfl ?_
            refine mv_iconst (v := 4) d_TrustDeskModel_feed_32 (by decide) ?_
            refine mv_icmp_ge_f (tgt := 40) d_TrustDeskModel_feed_33 (by decide) (by decide) ?_
            refine mv_iload_n d_TrustDeskModel_feed_36 rfl rfl ?_
            refine mv_goto (tgt := 76) d_TrustDeskModel_feed_37 (by decide) ?_
            refine mv_istore (lv' := [(7, .int x1), (6, .int 3), (0, .ref o0), (1, .int x1), (2, .int x2), (3, .int x3), (4, .int x4), (5, .int x5)]) d_TrustDeskModel_feed_76 (by decide) rfl ?_
            refine mv_aload_n d_TrustDeskModel_feed_78 rfl rfl ?_
            obtain ⟨a92, q91, t_a92⟩ := tm_atR I_14 h_q0_14 (k := 13) rfl
            refine tr_getK q91 d_TrustDeskModel_feed_79 f_TrustDeskModel_44_13 ?_
            refine mv_aload_n d_TrustDeskModel_feed_82 rfl rfl ?_
            obtain ⟨v94, q93⟩ := tm_atI I_14 h_q0_14 (k := 14) rfl
            refine tr_getK q93 d_TrustDeskModel_feed_83 f_TrustDeskModel_189_13 ?_
            have := kKR_14.f (k := 14) q93 rfl
            have := tm_rv q93
            refine mv_iload d_TrustDeskModel_feed_86 rfl ?_
            refine mv_bipush (v := 24) d_TrustDeskModel_feed_88 (by decide) ?_
            refine mv_bipush (v := 8) d_TrustDeskModel_feed_90 (by decide) ?_
            refine mv_iload d_TrustDeskModel_feed_92 rfl ?_
            refine mv_iconst (v := 4) d_TrustDeskModel_feed_94 (by decide) ?_
            refine mv_iremv (v := 3) d_TrustDeskModel_feed_95 (by decide) (by decide) ?_
            refine mv_imulv (v := 24) d_TrustDeskModel_feed_96 (by decide) ?_
            refine mv_isubv (v := 0) d_TrustDeskModel_feed_97 (by decide) ?_
            refine mv_ishr d_TrustDeskModel_feed_98 ?_
            refine mv_i2b (v := (x1 >>> (0 &&& 31)).toInt8.toInt32) d_TrustDeskModel_feed_99 rfl ?_
            refine tr_bastE (k := 13) I_14 kKR_14 (I_14.up h_o0) q91 t_a92 (by decide) (by decide) (fun lo hi h => by cases h; exact mz_nar9 _) (Or.inl (by decide)) d_TrustDeskModel_feed_100 (vp_in_iff.mpr (by omega)) (fun M95 I96 K97 R98 E99 A100 V101 => ?_)
            have z102 := (V101 14)
            refine mv_aload_n d_TrustDeskModel_feed_101 rfl rfl ?_
            refine mv_dup d_TrustDeskModel_feed_102 rfl ?_
            refine tr_getK (k := 14) (K97 _ 13 14 _ q93) d_TrustDeskModel_feed_103 f_TrustDeskModel_189_13 ?_
            refine mv_iconst (v := 1) d_TrustDeskModel_feed_106 (by decide) ?_
            refine mv_iadd d_TrustDeskModel_feed_107 ?_
            obtain ⟨w103, h104, b105⟩ : ∃ w9 : Int32, (v94 + 1) = w9 ∧ w9.toInt = v94.toInt + 1 := ⟨_, rfl, mz_add2 rfl (by decide) (by omega) (by omega)⟩
            rw [h104]
            clear h104
            refine tr_putR (k := 14) I96 R98 h_q0_14 rfl ⟨_, rfl⟩ (fun _ h => by cases h) rfl (fun lo hi h => by cases h; have := R98.1 14 _ _ rfl; exact ⟨by show (0 : Int) ≤ w103.toInt; omega, by show w103.toInt ≤ (400 : Int); omega⟩) (Or.inl (by decide)) d_TrustDeskModel_feed_108 p_TrustDeskModel_189_13 rfl rfl (fun M106 I107 q108 K109 R110 A111 V112 => ?_)
            have z113 : rv M106 o0 14 = w103.toInt := tm_rv q108
            have X114 : pX M106 o0 (p_fk pb pn x1.toInt x2.toInt x3.toInt x4.toInt x5.toInt 4) (pn + 4) := iv2_14.put (u := (x1.toInt / 1 % 256)) (m := v94.toNatClampNeg) E99 (fun j => A111 13 (by decide) j) ((tm_rv q108).trans (by omega)) (by have := mz_nat9 (i := v94) (by omega); omega) (by omega) (by omega) (mz_sb0 x1)
            refine mv_iinc (v := 4) (lv' := [(6, .int 4), (7, .int x1), (0, .ref o0), (1, .int x1), (2, .int x2), (3, .int x3), (4, .int x4), (5, .int x5)]) d_TrustDeskModel_feed_111 rfl (by decide) (by decide) rfl ?_
            refine mv_goto (tgt := 23) d_TrustDeskModel_feed_114 (by decide) ?_
            have : (4 : Int32).toInt = 4 := by decide
            refine mv_locals (lv' := [(6, .int 4), (0, .ref o0), (1, .int x1), (2, .int x2), (3, .int x3), (4, .int x4), (5, .int x5)]) (by intro q hq; simp only [List.mem_cons, List.not_mem_nil, or_false] at hq; rcases hq with rfl | rfl | rfl | rfl | rfl | rfl | rfl <;> rfl) ?_
            exact (ih14 4 T_14 M106 n_14 I107 h_q0_14 (by have := R110.1 14 _ _ rfl; first | omega | decide | exact fun h9 => absurd (by decide) h9) (by have := R110.1 14 _ _ rfl; first | omega | decide | exact fun h9 => absurd (by decide) h9) (by rw [show ((4 : Int32).toInt).toNat = 4 from by decide]; exact X114) R110 (by have := R110.1 14 _ _ rfl; omega))
          · obtain rfl : i6_14 = (4 : Int32) := Int32.toInt_inj.mp (b18.trans (by decide))
            have : (4 : Int32).toInt = 4 := by decide
            have : (5 : Int32).toInt = 5 := by decide
            rw [show ((4 : Int32).toInt).toNat = 4 from by decide] at iv2_14
            refine mv_iload d_TrustDeskModel_feed_30 rfl ?_
            refine mv_iconst (v := 4) d_TrustDeskModel_feed_32 (by decide) ?_
            refine mv_icmp_ge_t (tgt := 40) d_TrustDeskModel_feed_33 (by decide) (by decide) ?_
            refine mv_iload d_TrustDeskModel_feed_40 rfl ?_
            refine mv_bipush (v := 8) d_TrustDeskModel_feed_42 (by decide) ?_
            refine mv_icmp_ge_f (tgt := 51) d_TrustDeskModel_feed_44 (by decide) (by decide) ?_
            refine mv_iload_n d_TrustDeskModel_feed_47 rfl rfl ?_
            refine mv_goto (tgt := 76) d_TrustDeskModel_feed_48 (by decide) ?_
            refine mv_istore (lv' := [(7, .int x2), (6, .int 4), (0, .ref o0), (1, .int x1), (2, .int x2), (3, .int x3), (4, .int x4), (5, .int x5)]) d_TrustDeskModel_feed_76 (by decide) rfl ?_
            refine mv_aload_n d_TrustDeskModel_feed_78 rfl rfl ?_
            obtain ⟨a116, q115, t_a116⟩ := tm_atR I_14 h_q0_14 (k := 13) rfl
            refine tr_getK q115 d_TrustDeskModel_feed_79 f_TrustDeskModel_44_13 ?_
            refine mv_aload_n d_TrustDeskModel_feed_82 rfl rfl ?_
            obtain ⟨v118, q117⟩ := tm_atI I_14 h_q0_14 (k := 14) rfl
            refine tr_getK q117 d_TrustDeskModel_feed_83 f_TrustDeskModel_189_13 ?_
            have := kKR_14.f (k := 14) q117 rfl
            have := tm_rv q117
            refine mv_iload d_TrustDeskModel_feed_86 rfl ?_
            refine mv_bipush (v := 24) d_TrustDeskModel_feed_88 (by decide) ?_
            refine mv_bipush (v := 8) d_TrustDeskModel_feed_90 (by decide) ?_
            refine mv_iload d_TrustDeskModel_feed_92 rfl ?_
            refine mv_iconst (v := 4) d_TrustDeskModel_feed_94 (by decide) ?_
            refine mv_iremv (v := 0) d_TrustDeskModel_feed_95 (by decide) (by decide) ?_
            refine mv_imulv (v := 0) d_TrustDeskModel_feed_96 (by decide) ?_
            refine mv_isubv (v := 24) d_TrustDeskModel_feed_97 (by decide) ?_
            refine mv_ishr d_TrustDeskModel_feed_98 ?_
            refine mv_i2b (v := (x2 >>> (24 &&& 31)).toInt8.toInt32) d_TrustDeskModel_feed_99 rfl ?_
            refine tr_bastE (k := 13) I_14 kKR_14 (I_14.up h_o0) q115 t_a116 (by decide) (by decide) (fun lo hi h => by cases h; exact mz_nar9 _) (Or.inl (by decide)) d_TrustDeskModel_feed_100 (vp_in_iff.mpr (by omega)) (fun M119 I120 K121 R122 E123 A124 V125 => ?_)
            have z126 := (V125 14)
            refine mv_aload_n d_TrustDeskModel_feed_101 rfl rfl ?_
            refine mv_dup d_TrustDeskModel_feed_102 rfl ?_
            refine tr_getK (k := 14) (K121 _ 13 14 _ q117) d_TrustDeskModel_feed_103 f_TrustDeskModel_189_13 ?_
            refine mv_iconst (v := 1) d_TrustDeskModel_feed_106 (by decide) ?_
            refine mv_iadd d_TrustDeskModel_feed_107 ?_
            obtain ⟨w127, h128, b129⟩ : ∃ w9 : Int32, (v118 + 1) = w9 ∧ w9.toInt = v118.toInt + 1 := ⟨_, rfl, mz_add2 rfl (by decide) (by omega) (by omega)⟩
            rw [h128]
            clear h128
            refine tr_putR (k := 14) I120 R122 h_q0_14 rfl ⟨_, rfl⟩ (fun _ h => by cases h) rfl (fun lo hi h => by cases h; have := R122.1 14 _ _ rfl; exact ⟨by show (0 : Int) ≤ w127.toInt; omega, by show w127.toInt ≤ (400 : Int); omega⟩) (Or.inl (by decide)) d_TrustDeskModel_feed_108 p_TrustDeskModel_189_13 rfl rfl (fun M130 I131 q132 K133 R134 A135 V136 => ?_)
            have z137 : rv M130 o0 14 = w127.toInt := tm_rv q132
            have X138 : pX M130 o0 (p_fk pb pn x1.toInt x2.toInt x3.toInt x4.toInt x5.toInt 5) (pn + 5) := iv2_14.put (u := (x2.toInt / 16777216 % 256)) (m := v118.toNatClampNeg) E123 (fun j => A135 13 (by decide) j) ((tm_rv q132).trans (by omega)) (by have := mz_nat9 (i := v118) (by omega); omega) (by omega) (by omega) (mz_sb24 x2)
            refine mv_iinc (v := 5) (lv' := [(6, .int 5), (7, .int x2), (0, .ref o0), (1, .int x1), (2, .int x2), (3, .int x3), (4, .int x4), (5, .int x5)]) d_TrustDeskModel_feed_111 rfl (by decide) (by decide) rfl ?_
            refine mv_goto (tgt := 23) d_TrustDeskModel_feed_114 (by decide) ?_
            have : (5 : Int32).toInt = 5 := by decide
            refine mv_locals (lv' := [(6, .int 5), (0, .ref o0), (1, .int x1), (2, .int x2), (3, .int x3), (4, .int x4), (5, .int x5)]) (by intro q hq; simp only [List.mem_cons, List.not_mem_nil, or_false] at hq; rcases hq with rfl | rfl | rfl | rfl | rfl | rfl | rfl <;> rfl) ?_
            exact (ih14 5 T_14 M130 n_14 I131 h_q0_14 (by have := R134.1 14 _ _ rfl; first | omega | decide | exact fun h9 => absurd (by decide) h9) (by have := R134.1 14 _ _ rfl; first | omega | decide | exact fun h9 => absurd (by decide) h9) (by rw [show ((5 : Int32).toInt).toNat = 5 from by decide]; exact X138) R134 (by have := R134.1 14 _ _ rfl; omega))
          · obtain rfl : i6_14 = (5 : Int32) := Int32.toInt_inj.mp (b18.trans (by decide))
            have : (5 : Int32).toInt = 5 := by decide
            have : (6 : Int32).toInt = 6 := by decide
            rw [show ((5 : Int32).toInt).toNat = 5 from by decide] at iv2_14
            refine mv_iload d_TrustDeskModel_feed_30 rfl ?_
            refine mv_iconst (v := 4) d_TrustDeskModel_feed_32 (by decide) ?_
            refine mv_icmp_ge_t (tgt := 40) d_TrustDeskModel_feed_33 (by decide) (by decide) ?_
            refine mv_iload d_TrustDeskModel_feed_40 rfl ?_
            refine mv_bipush (v := 8) d_TrustDeskModel_feed_42 (by decide) ?_
            refine mv_icmp_ge_f (tgt := 51) d_TrustDeskModel_feed_44 (by decide) (by decide) ?_
            refine mv_iload_n d_TrustDeskModel_feed_47 rfl rfl ?_
            refine mv_goto (tgt := 76) d_TrustDeskModel_feed_48 (by decide) ?_
            refine mv_istore (lv' := [(7, .int x2), (6, .int 5), (0, .ref o0), (1, .int x1), (2, .int x2), (3, .int x3), (4, .int x4), (5, .int x5)]) d_TrustDeskModel_feed_76 (by decide) rfl ?_
            refine mv_aload_n d_TrustDeskModel_feed_78 rfl rfl ?_
            obtain ⟨a140, q139, t_a140⟩ := tm_atR I_14 h_q0_14 (k := 13) rfl
            refine tr_getK q139 d_TrustDeskModel_feed_79 f_TrustDeskModel_44_13 ?_
            refine mv_aload_n d_TrustDeskModel_feed_82 rfl rfl ?_
            obtain ⟨v142, q141⟩ := tm_atI I_14 h_q0_14 (k := 14) rfl
            refine tr_getK q141 d_TrustDeskModel_feed_83 f_TrustDeskModel_189_13 ?_
            have := kKR_14.f (k := 14) q141 rfl
            have := tm_rv q141
            refine mv_iload d_TrustDeskModel_feed_86 rfl ?_
            refine mv_bipush (v := 24) d_TrustDeskModel_feed_88 (by decide) ?_
            refine mv_bipush (v := 8) d_TrustDeskModel_feed_90 (by decide) ?_
            refine mv_iload d_TrustDeskModel_feed_92 rfl ?_
            refine mv_iconst (v := 4) d_TrustDeskModel_feed_94 (by decide) ?_
            refine mv_iremv (v := 1) d_TrustDeskModel_feed_95 (by decide) (by decide) ?_
            refine mv_imulv (v := 8) d_TrustDeskModel_feed_96 (by decide) ?_
            refine mv_isubv (v := 16) d_TrustDeskModel_feed_97 (by decide) ?_
            refine mv_ishr d_TrustDeskModel_feed_98 ?_
            refine mv_i2b (v := (x2 >>> (16 &&& 31)).toInt8.toInt32) d_TrustDeskModel_feed_99 rfl ?_
            refine tr_bastE (k := 13) I_14 kKR_14 (I_14.up h_o0) q139 t_a140 (by decide) (by decide) (fun lo hi h => by cases h; exact mz_nar9 _) (Or.inl (by decide)) d_TrustDeskModel_feed_100 (vp_in_iff.mpr (by omega)) (fun M143 I144 K145 R146 E147 A148 V149 => ?_)
            have z150 := (V149 14)
            refine mv_aload_n d_TrustDeskModel_feed_101 rfl rfl ?_
            refine mv_dup d_TrustDeskModel_feed_102 rfl ?_
            refine tr_getK (k := 14) (K145 _ 13 14 _ q141) d_TrustDeskModel_feed_103 f_TrustDeskModel_189_13 ?_
            refine mv_iconst (v := 1) d_TrustDeskModel_feed_106 (by decide) ?_
            refine mv_iadd d_TrustDeskModel_feed_107 ?_
            obtain ⟨w151, h152, b153⟩ : ∃ w9 : Int32, (v142 + 1) = w9 ∧ w9.toInt = v142.toInt + 1 := ⟨_, rfl, mz_add2 rfl (by decide) (by omega) (by omega)⟩
            rw [h152]
            clear h152
            refine tr_putR (k := 14) I144 R146 h_q0_14 rfl ⟨_, rfl⟩ (fun _ h => by cases h) rfl (fun lo hi h => by cases h; have := R146.1 14 _ _ rfl; exact ⟨by show (0 : Int) ≤ w151.toInt; omega, by show w151.toInt ≤ (400 : Int); omega⟩) (Or.inl (by decide)) d_TrustDeskModel_feed_108 p_TrustDeskModel_189_13 rfl rfl (fun M154 I155 q156 K157 R158 A159 V160 => ?_)
            have z161 : rv M154 o0 14 = w151.toInt := tm_rv q156
            have X162 : pX M154 o0 (p_fk pb pn x1.toInt x2.toInt x3.toInt x4.toInt x5.toInt 6) (pn + 6) := iv2_14.put (u := (x2.toInt / 65536 % 256)) (m := v142.toNatClampNeg) E147 (fun j => A159 13 (by decide) j) ((tm_rv q156).trans (by omega)) (by have := mz_nat9 (i := v142) (by omega); omega) (by omega) (by omega) (mz_sb16 x2)
            refine mv_iinc (v := 6) (lv' := [(6, .int 6), (7, .int x2), (0, .ref o0), (1, .int x1), (2, .int x2), (3, .int x3), (4, .int x4), (5, .int x5)]) d_TrustDeskModel_feed_111 rfl (by decide) (by decide) rfl ?_
            refine mv_goto (tgt := 23) d_TrustDeskModel_feed_114 (by decide) ?_
            have : (6 : Int32).toInt = 6 := by decide
            refine mv_locals (lv' := [(6, .int 6), (0, .ref o0), (1, .int x1), (2, .int x2), (3, .int x3), (4, .int x4), (5, .int x5)]) (by intro q hq; simp only [List.mem_cons, List.not_mem_nil, or_false] at hq; rcases hq with rfl | rfl | rfl | rfl | rfl | rfl | rfl <;> rfl) ?_
            exact (ih14 6 T_14 M154 n_14 I155 h_q0_14 (by have := R158.1 14 _ _ rfl; first | omega | decide | exact fun h9 => absurd (by decide) h9) (by have := R158.1 14 _ _ rfl; first | omega | decide | exact fun h9 => absurd (by decide) h9) (by rw [show ((6 : Int32).toInt).toNat = 6 from by decide]; exact X162) R158 (by have := R158.1 14 _ _ rfl; omega))
          · obtain rfl : i6_14 = (6 : Int32) := Int32.toInt_inj.mp (b18.trans (by decide))
            have : (6 : Int32).toInt = 6 := by decide
            have : (7 : Int32).toInt = 7 := by decide
            rw [show ((6 : Int32).toInt).toNat = 6 from by decide] at iv2_14
            refine mv_iload d_TrustDeskModel_feed_30 rfl ?_
            refine mv_iconst (v := 4) d_TrustDeskModel_feed_32 (by decide) ?_
            refine mv_icmp_ge_t (tgt := 40) d_TrustDeskModel_feed_33 (by decide) (by decide) ?_
            refine mv_iload d_TrustDeskModel_feed_40 rfl ?_
            refine mv_bipush (v := 8) d_TrustDeskModel_feed_42 (by decide) ?_
            refine mv_icmp_ge_f (tgt := 51) d_TrustDeskModel_feed_44 (by decide) (by decide) ?_
            refine mv_iload_n d_TrustDeskModel_feed_47 rfl rfl ?_
            refine mv_goto (tgt := 76) d_TrustDeskModel_feed_48 (by decide) ?_
            refine mv_istore (lv' := [(7, .int x2), (6, .int 6), (0, .ref o0), (1, .int x1), (2, .int x2), (3, .int x3), (4, .int x4), (5, .int x5)]) d_TrustDeskModel_feed_76 (by decide) rfl ?_
            refine mv_aload_n d_TrustDeskModel_feed_78 rfl rfl ?_
            obtain ⟨a164, q163, t_a164⟩ := tm_atR I_14 h_q0_14 (k := 13) rfl
            refine tr_getK q163 d_TrustDeskModel_feed_79 f_TrustDeskModel_44_13 ?_
            refine mv_aload_n d_TrustDeskModel_feed_82 rfl rfl ?_
            obtain ⟨v166, q165⟩ := tm_atI I_14 h_q0_14 (k := 14) rfl
            refine tr_getK q165 d_TrustDeskModel_feed_83 f_TrustDeskModel_189_13 ?_
            have := kKR_14.f (k := 14) q165 rfl
            have := tm_rv q165
            refine mv_iload d_TrustDeskModel_feed_86 rfl ?_
            refine mv_bipush (v := 24) d_TrustDeskModel_feed_88 (by decide) ?_
            refine mv_bipush (v := 8) d_TrustDeskModel_feed_90 (by decide) ?_
            refine mv_iload d_TrustDeskModel_feed_92 rfl ?_
            refine mv_iconst (v := 4) d_TrustDeskModel_feed_94 (by decide) ?_
            refine mv_iremv (v := 2) d_TrustDeskModel_feed_95 (by decide) (by decide) ?_
            refine mv_imulv (v := 16) d_TrustDeskModel_feed_96 (by decide) ?_
            refine mv_isubv (v := 8) d_TrustDeskModel_feed_97 (by decide) ?_
            refine mv_ishr d_TrustDeskModel_feed_98 ?_
            refine mv_i2b (v := (x2 >>> (8 &&& 31)).toInt8.toInt32) d_TrustDeskModel_feed_99 rfl ?_
            refine tr_bastE (k := 13) I_14 kKR_14 (I_14.up h_o0) q163 t_a164 (by decide) (by decide) (fun lo hi h => by cases h; exact mz_nar9 _) (Or.inl (by decide)) d_TrustDeskModel_feed_100 (vp_in_iff.mpr (by omega)) (fun M167 I168 K169 R170 E171 A172 V173 => ?_)
            have z174 := (V173 14)
            refine mv_aload_n d_TrustDeskModel_feed_101 rfl rfl ?_
            refine mv_dup d_TrustDeskModel_feed_102 rfl ?_
            refine tr_getK (k := 14) (K169 _ 13 14 _ q165) d_TrustDeskModel_feed_103 f_TrustDeskModel_189_13 ?_
            refine mv_iconst (v := 1) d_TrustDeskModel_feed_106 (by decide) ?_
            refine mv_iadd d_TrustDeskModel_feed_107 ?_
            obtain ⟨w175, h176, b177⟩ : ∃ w9 : Int32, (v166 + 1) = w9 ∧ w9.toInt = v166.toInt + 1 := ⟨_, rfl, mz_add2 rfl (by decide) (by omega) (by omega)⟩
            rw [h176]
            clear h176
            refine tr_putR (k := 14) I168 R170 h_q0_14 rfl ⟨_, rfl⟩ (fun _ h => by cases h) rfl (fun lo hi h => by cases h; have := R170.1 14 _ _ rfl; exact ⟨by show (0 : Int) ≤ w175.toInt; omega, by show w175.toInt ≤ (400 : Int); omega⟩) (Or.inl (by decide)) d_TrustDeskModel_feed_108 p_TrustDeskModel_189_13 rfl rfl (fun M178 I179 q180 K181 R182 A183 V184 => ?_)
            have z185 : rv M178 o0 14 = w175.toInt := tm_rv q180
            have X186 : pX M178 o0 (p_fk pb pn x1.toInt x2.toInt x3.toInt x4.toInt x5.toInt 7) (pn + 7) := iv2_14.put (u := (x2.toInt / 256 % 256)) (m := v166.toNatClampNeg) E171 (fun j => A183 13 (by decide) j) ((tm_rv q180).trans (by omega)) (by have := mz_nat9 (i := v166) (by omega); omega) (by omega) (by omega) (mz_sb8 x2)
            refine mv_iinc (v := 7) (lv' := [(6, .int 7), (7, .int x2), (0, .ref o0), (1, .int x1), (2, .int x2), (3, .int x3), (4, .int x4), (5, .int x5)]) d_TrustDeskModel_feed_111 rfl (by decide) (by decide) rfl ?_
            refine mv_goto (tgt := 23) d_TrustDeskModel_feed_114 (by decide) ?_
            have : (7 : Int32).toInt = 7 := by decide
            refine mv_locals (lv' := [(6, .int 7), (0, .ref o0), (1, .int x1), (2, .int x2), (3, .int x3), (4, .int x4), (5, .int x5)]) (by intro q hq; simp only [List.mem_cons, List.not_mem_nil, or_false] at hq; rcases hq with rfl | rfl | rfl | rfl | rfl | rfl | rfl <;> rfl) ?_
            exact (ih14 7 T_14 M178 n_14 I179 h_q0_14 (by have := R182.1 14 _ _ rfl; first | omega | decide | exact fun h9 => absurd (by decide) h9) (by have := R182.1 14 _ _ rfl; first | omega | decide | exact fun h9 => absurd (by decide) h9) (by rw [show ((7 : Int32).toInt).toNat = 7 from by decide]; exact X186) R182 (by have := R182.1 14 _ _ rfl; omega))
          · obtain rfl : i6_14 = (7 : Int32) := Int32.toInt_inj.mp (b18.trans (by decide))
            have : (7 : Int32).toInt = 7 := by decide
            have : (8 : Int32).toInt = 8 := by decide
            rw [show ((7 : Int32).toInt).toNat = 7 from by decide] at iv2_14
            refine mv_iload d_TrustDeskModel_feed_30 rfl ?_
            refine mv_iconst (v := 4) d_TrustDeskModel_feed_32 (by decide) ?_
            refine mv_icmp_ge_t (tgt := 40) d_TrustDeskModel_feed_33 (by decide) (by decide) ?_
            refine mv_iload d_TrustDeskModel_feed_40 rfl ?_
            refine mv_bipush (v := 8) d_TrustDeskModel_feed_42 (by decide) ?_
            refine mv_icmp_ge_f (tgt := 51) d_TrustDeskModel_feed_44 (by decide) (by decide) ?_
            refine mv_iload_n d_TrustDeskModel_feed_47 rfl rfl ?_
            refine mv_goto (tgt := 76) d_TrustDeskModel_feed_48 (by decide) ?_
            refine mv_istore (lv' := [(7, .int x2), (6, .int 7), (0, .ref o0), (1, .int x1), (2, .int x2), (3, .int x3), (4, .int x4), (5, .int x5)]) d_TrustDeskModel_feed_76 (by decide) rfl ?_
            refine mv_aload_n d_TrustDeskModel_feed_78 rfl rfl ?_
            obtain ⟨a188, q187, t_a188⟩ := tm_atR I_14 h_q0_14 (k := 13) rfl
            refine tr_getK q187 d_TrustDeskModel_feed_79 f_TrustDeskModel_44_13 ?_
            refine mv_aload_n d_TrustDeskModel_feed_82 rfl rfl ?_
            obtain ⟨v190, q189⟩ := tm_atI I_14 h_q0_14 (k := 14) rfl
            refine tr_getK q189 d_TrustDeskModel_feed_83 f_TrustDeskModel_189_13 ?_
            have := kKR_14.f (k := 14) q189 rfl
            have := tm_rv q189
            refine mv_iload d_TrustDeskModel_feed_86 rfl ?_
            refine mv_bipush (v := 24) d_TrustDeskModel_feed_88 (by decide) ?_
            refine mv_bipush (v := 8) d_TrustDeskModel_feed_90 (by decide) ?_
            refine mv_iload d_TrustDeskModel_feed_92 rfl ?_
            refine mv_iconst (v := 4) d_TrustDeskModel_feed_94 (by decide) ?_
            refine mv_iremv (v := 3) d_TrustDeskModel_feed_95 (by decide) (by decide) ?_
            refine mv_imulv (v := 24) d_TrustDeskModel_feed_96 (by decide) ?_
            refine mv_isubv (v := 0) d_TrustDeskModel_feed_97 (by decide) ?_
            refine mv_ishr d_TrustDeskModel_feed_98 ?_
            refine mv_i2b (v := (x2 >>> (0 &&& 31)).toInt8.toInt32) d_TrustDeskModel_feed_99 rfl ?_
            refine tr_bastE (k := 13) I_14 kKR_14 (I_14.up h_o0) q187 t_a188 (by decide) (by decide) (fun lo hi h => by cases h; exact mz_nar9 _) (Or.inl (by decide)) d_TrustDeskModel_feed_100 (vp_in_iff.mpr (by omega)) (fun M191 I192 K193 R194 E195 A196 V197 => ?_)
            have z198 := (V197 14)
            refine mv_aload_n d_TrustDeskModel_feed_101 rfl rfl ?_
            refine mv_dup d_TrustDeskModel_feed_102 rfl ?_
            refine tr_getK (k := 14) (K193 _ 13 14 _ q189) d_TrustDeskModel_feed_103 f_TrustDeskModel_189_13 ?_
            refine mv_iconst (v := 1) d_TrustDeskModel_feed_106 (by decide) ?_
            refine mv_iadd d_TrustDeskModel_feed_107 ?_
            obtain ⟨w199, h200, b201⟩ : ∃ w9 : Int32, (v190 + 1) = w9 ∧ w9.toInt = v190.toInt + 1 := ⟨_, rfl, mz_add2 rfl (by decide) (by omega) (by omega)⟩
            rw [h200]
            clear h200
            refine tr_putR (k := 14) I192 R194 h_q0_14 rfl ⟨_, rfl⟩ (fun _ h => by cases h) rfl (fun lo hi h => by cases h; have := R194.1 14 _ _ rfl; exact ⟨by show (0 : Int) ≤ w199.toInt; omega, by show w199.toInt ≤ (400 : Int); omega⟩) (Or.inl (by decide)) d_TrustDeskModel_feed_108 p_TrustDeskModel_189_13 rfl rfl (fun M202 I203 q204 K205 R206 A207 V208 => ?_)
            have z209 : rv M202 o0 14 = w199.toInt := tm_rv q204
            have X210 : pX M202 o0 (p_fk pb pn x1.toInt x2.toInt x3.toInt x4.toInt x5.toInt 8) (pn + 8) := iv2_14.put (u := (x2.toInt / 1 % 256)) (m := v190.toNatClampNeg) E195 (fun j => A207 13 (by decide) j) ((tm_rv q204).trans (by omega)) (by have := mz_nat9 (i := v190) (by omega); omega) (by omega) (by omega) (mz_sb0 x2)
            refine mv_iinc (v := 8) (lv' := [(6, .int 8), (7, .int x2), (0, .ref o0), (1, .int x1), (2, .int x2), (3, .int x3), (4, .int x4), (5, .int x5)]) d_TrustDeskModel_feed_111 rfl (by decide) (by decide) rfl ?_
            refine mv_goto (tgt := 23) d_TrustDeskModel_feed_114 (by decide) ?_
            have : (8 : Int32).toInt = 8 := by decide
            refine mv_locals (lv' := [(6, .int 8), (0, .ref o0), (1, .int x1), (2, .int x2), (3, .int x3), (4, .int x4), (5, .int x5)]) (by intro q hq; simp only [List.mem_cons, List.not_mem_nil, or_false] at hq; rcases hq with rfl | rfl | rfl | rfl | rfl | rfl | rfl <;> rfl) ?_
            exact (ih14 8 T_14 M202 n_14 I203 h_q0_14 (by have := R206.1 14 _ _ rfl; first | omega | decide | exact fun h9 => absurd (by decide) h9) (by have := R206.1 14 _ _ rfl; first | omega | decide | exact fun h9 => absurd (by decide) h9) (by rw [show ((8 : Int32).toInt).toNat = 8 from by decide]; exact X210) R206 (by have := R206.1 14 _ _ rfl; omega))
          · obtain rfl : i6_14 = (8 : Int32) := Int32.toInt_inj.mp (b18.trans (by decide))
            have : (8 : Int32).toInt = 8 := by decide
            have : (9 : Int32).toInt = 9 := by decide
            rw [show ((8 : Int32).toInt).toNat = 8 from by decide] at iv2_14
            refine mv_iload d_TrustDeskModel_feed_30 rfl ?_
            refine mv_iconst (v := 4) d_TrustDeskModel_feed_32 (by decide) ?_
            refine mv_icmp_ge_t (tgt := 40) d_TrustDeskModel_feed_33 (by decide) (by decide) ?_
            refine mv_iload d_TrustDeskModel_feed_40 rfl ?_
            refine mv_bipush (v := 8) d_TrustDeskModel_feed_42 (by decide) ?_
            refine mv_icmp_ge_t (tgt := 51) d_TrustDeskModel_feed_44 (by decide) (by decide) ?_
            refine mv_iload d_TrustDeskModel_feed_51 rfl ?_
            refine mv_bipush (v := 12) d_TrustDeskModel_feed_53 (by decide) ?_
            refine mv_icmp_ge_f (tgt := 62) d_TrustDeskModel_feed_55 (by decide) (by decide) ?_
            refine mv_iload_n d_TrustDeskModel_feed_58 rfl rfl ?_
            refine mv_goto (tgt := 76) d_TrustDeskModel_feed_59 (by decide) ?_
            refine mv_istore (lv' := [(7, .int x3), (6, .int 8), (0, .ref o0), (1, .int x1), (2, .int x2), (3, .int x3), (4, .int x4), (5, .int x5)]) d_TrustDeskModel_feed_76 (by decide) rfl ?_
            refine mv_aload_n d_TrustDeskModel_feed_78 rfl rfl ?_
            obtain ⟨a212, q211, t_a212⟩ := tm_atR I_14 h_q0_14 (k := 13) rfl
            refine tr_getK q211 d_TrustDeskModel_feed_79 f_TrustDeskModel_44_13 ?_
            refine mv_aload_n d_TrustDeskModel_feed_82 rfl rfl ?_
            obtain ⟨v214, q213⟩ := tm_atI I_14 h_q0_14 (k := 14) rfl
            refine tr_getK q213 d_TrustDeskModel_feed_83 f_TrustDeskModel_189_13 ?_
            have := kKR_14.f (k := 14) q213 rfl
            have := tm_rv q213
            refine mv_iload d_TrustDeskModel_feed_86 rfl ?_
            refine mv_bipush (v := 24) d_TrustDeskModel_feed_88 (by decide) ?_
            refine mv_bipush (v := 8) d_TrustDeskModel_feed_90 (by decide) ?_
            refine mv_iload d_TrustDeskModel_feed_92 rfl ?_
            refine mv_iconst (v := 4) d_TrustDeskModel_feed_94 (by decide) ?_
            refine mv_iremv (v := 0) d_TrustDeskModel_feed_95 (by decide) (by decide) ?_
            refine mv_imulv (v := 0) d_TrustDeskModel_feed_96 (by decide) ?_
            refine mv_isubv (v := 24) d_TrustDeskModel_feed_97 (by decide) ?_
            refine mv_ishr d_TrustDeskModel_feed_98 ?_
            refine mv_i2b (v := (x3 >>> (24 &&& 31)).toInt8.toInt32) d_TrustDeskModel_feed_99 rfl ?_
            refine tr_bastE (k := 13) I_14 kKR_14 (I_14.up h_o0) q211 t_a212 (by decide) (by decide) (fun lo hi h => by cases h; exact mz_nar9 _) (Or.inl (by decide)) d_TrustDeskModel_feed_100 (vp_in_iff.mpr (by omega)) (fun M215 I216 K217 R218 E219 A220 V221 => ?_)
            have z222 := (V221 14)
            refine mv_aload_n d_TrustDeskModel_feed_101 rfl rfl ?_
            refine mv_dup d_TrustDeskModel_feed_102 rfl ?_
            refine tr_getK (k := 14) (K217 _ 13 14 _ q213) d_TrustDeskModel_feed_103 f_TrustDeskModel_189_13 ?_
            refine mv_iconst (v := 1) d_TrustDeskModel_feed_106 (by decide) ?_
            refine mv_iadd d_TrustDeskModel_feed_107 ?_
            obtain ⟨w223, h224, b225⟩ : ∃ w9 : Int32, (v214 + 1) = w9 ∧ w9.toInt = v214.toInt + 1 := ⟨_, rfl, mz_add2 rfl (by decide) (by omega) (by omega)⟩
            rw [h224]
            clear h224
            refine tr_putR (k := 14) I216 R218 h_q0_14 rfl ⟨_, rfl⟩ (fun _ h => by cases h) rfl (fun lo hi h => by cases h; have := R218.1 14 _ _ rfl; exact ⟨by show (0 : Int) ≤ w223.toInt; omega, by show w223.toInt ≤ (400 : Int); omega⟩) (Or.inl (by decide)) d_TrustDeskModel_feed_108 p_TrustDeskModel_189_13 rfl rfl (fun M226 I227 q228 K229 R230 A231 V232 => ?_)
            have z233 : rv M226 o0 14 = w223.toInt := tm_rv q228
            have X234 : pX M226 o0 (p_fk pb pn x1.toInt x2.toInt x3.toInt x4.toInt x5.toInt 9) (pn + 9) := iv2_14.put (u := (x3.toInt / 16777216 % 256)) (m := v214.toNatClampNeg) E219 (fun j => A231 13 (by decide) j) ((tm_rv q228).trans (by omega)) (by have := mz_nat9 (i := v214) (by omega); omega) (by omega) (by omega) (mz_sb24 x3)
            refine mv_iinc (v := 9) (lv' := [(6, .int 9), (7, .int x3), (0, .ref o0), (1, .int x1), (2, .int x2), (3, .int x3), (4, .int x4), (5, .int x5)]) d_TrustDeskModel_feed_111 rfl (by decide) (by decide) rfl ?_
            refine mv_goto (tgt := 23) d_TrustDeskModel_feed_114 (by decide) ?_
            have : (9 : Int32).toInt = 9 := by decide
            refine mv_locals (lv' := [(6, .int 9), (0, .ref o0), (1, .int x1), (2, .int x2), (3, .int x3), (4, .int x4), (5, .int x5)]) (by intro q hq; simp only [List.mem_cons, List.not_mem_nil, or_false] at hq; rcases hq with rfl | rfl | rfl | rfl | rfl | rfl | rfl <;> rfl) ?_
            exact (ih14 9 T_14 M226 n_14 I227 h_q0_14 (by have := R230.1 14 _ _ rfl; first | omega | decide | exact fun h9 => absurd (by decide) h9) (by have := R230.1 14 _ _ rfl; first | omega | decide | exact fun h9 => absurd (by decide) h9) (by rw [show ((9 : Int32).toInt).toNat = 9 from by decide]; exact X234) R230 (by have := R230.1 14 _ _ rfl; omega))
          · obtain rfl : i6_14 = (9 : Int32) := Int32.toInt_inj.mp (b18.trans (by decide))
            have : (9 : Int32).toInt = 9 := by decide
            have : (10 : Int32).toInt = 10 := by decide
            rw [show ((9 : Int32).toInt).toNat = 9 from by decide] at iv2_14
            refine mv_iload d_TrustDeskModel_feed_30 rfl ?_
            refine mv_iconst (v := 4) d_TrustDeskModel_feed_32 (by decide) ?_
            refine mv_icmp_ge_t (tgt := 40) d_TrustDeskModel_feed_33 (by decide) (by decide) ?_
            refine mv_iload d_TrustDeskModel_feed_40 rfl ?_
            refine mv_bipush (v := 8) d_TrustDeskModel_feed_42 (by decide) ?_
            refine mv_icmp_ge_t (tgt := 51) d_TrustDeskModel_feed_44 (by decide) (by decide) ?_
            refine mv_iload d_TrustDeskModel_feed_51 rfl ?_
            refine mv_bipush (v := 12) d_TrustDeskModel_feed_53 (by decide) ?_
            refine mv_icmp_ge_f (tgt := 62) d_TrustDeskModel_feed_55 (by decide) (by decide) ?_
            refine mv_iload_n d_TrustDeskModel_feed_58 rfl rfl ?_
            refine mv_goto (tgt := 76) d_TrustDeskModel_feed_59 (by decide) ?_
            refine mv_istore (lv' := [(7, .int x3), (6, .int 9), (0, .ref o0), (1, .int x1), (2, .int x2), (3, .int x3), (4, .int x4), (5, .int x5)]) d_TrustDeskModel_feed_76 (by decide) rfl ?_
            refine mv_aload_n d_TrustDeskModel_feed_78 rfl rfl ?_
            obtain ⟨a236, q235, t_a236⟩ := tm_atR I_14 h_q0_14 (k := 13) rfl
            refine tr_getK q235 d_TrustDeskModel_feed_79 f_TrustDeskModel_44_13 ?_
            refine mv_aload_n d_TrustDeskModel_feed_82 rfl rfl ?_
            obtain ⟨v238, q237⟩ := tm_atI I_14 h_q0_14 (k := 14) rfl
            refine tr_getK q237 d_TrustDeskModel_feed_83 f_TrustDeskModel_189_13 ?_
            have := kKR_14.f (k := 14) q237 rfl
            have := tm_rv q237
            refine mv_iload d_TrustDeskModel_feed_86 rfl ?_
            refine mv_bipush (v := 24) d_TrustDeskModel_feed_88 (by decide) ?_
            refine mv_bipush (v := 8) d_TrustDeskModel_feed_90 (by decide) ?_
            refine mv_iload d_TrustDeskModel_feed_92 rfl ?_
            refine mv_iconst (v := 4) d_TrustDeskModel_feed_94 (by decide) ?_
            refine mv_iremv (v := 1) d_TrustDeskModel_feed_95 (by decide) (by decide) ?_
            refine mv_imulv (v := 8) d_TrustDeskModel_feed_96 (by decide) ?_
            refine mv_isubv (v := 16) d_TrustDeskModel_feed_97 (by decide) ?_
            refine mv_ishr d_TrustDeskModel_feed_98 ?_
            refine mv_i2b (v := (x3 >>> (16 &&& 31)).toInt8.toInt32) d_TrustDeskModel_feed_99 rfl ?_
            refine tr_bastE (k := 13) I_14 kKR_14 (I_14.up h_o0) q235 t_a236 (by decide) (by decide) (fun lo hi h => by cases h; exact mz_nar9 _) (Or.inl (by decide)) d_TrustDeskModel_feed_100 (vp_in_iff.mpr (by omega)) (fun M239 I240 K241 R242 E243 A244 V245 => ?_)
            have z246 := (V245 14)
            refine mv_aload_n d_TrustDeskModel_feed_101 rfl rfl ?_
            refine mv_dup d_TrustDeskModel_feed_102 rfl ?_
            refine tr_getK (k := 14) (K241 _ 13 14 _ q237) d_TrustDeskModel_feed_103 f_TrustDeskModel_189_13 ?_
            refine mv_iconst (v := 1) d_TrustDeskModel_feed_106 (by decide) ?_
            refine mv_iadd d_TrustDeskModel_feed_107 ?_
            obtain ⟨w247, h248, b249⟩ : ∃ w9 : Int32, (v238 + 1) = w9 ∧ w9.toInt = v238.toInt + 1 := ⟨_, rfl, mz_add2 rfl (by decide) (by omega) (by omega)⟩
            rw [h248]
            clear h248
            refine tr_putR (k := 14) I240 R242 h_q0_14 rfl ⟨_, rfl⟩ (fun _ h => by cases h) rfl (fun lo hi h => by cases h; have := R242.1 14 _ _ rfl; exact ⟨by show (0 : Int) ≤ w247.toInt; omega, by show w247.toInt ≤ (400 : Int); omega⟩) (Or.inl (by decide)) d_TrustDeskModel_feed_108 p_TrustDeskModel_189_13 rfl rfl (fun M250 I251 q252 K253 R254 A255 V256 => ?_)
            have z257 : rv M250 o0 14 = w247.toInt := tm_rv q252
            have X258 : pX M250 o0 (p_fk pb pn x1.toInt x2.toInt x3.toInt x4.toInt x5.toInt 10) (pn + 10) := iv2_14.put (u := (x3.toInt / 65536 % 256)) (m := v238.toNatClampNeg) E243 (fun j => A255 13 (by decide) j) ((tm_rv q252).trans (by omega)) (by have := mz_nat9 (i := v238) (by omega); omega) (by omega) (by omega) (mz_sb16 x3)
            refine mv_iinc (v := 10) (lv' := [(6, .int 10), (7, .int x3), (0, .ref o0), (1, .int x1), (2, .int x2), (3, .int x3), (4, .int x4), (5, .int x5)]) d_TrustDeskModel_feed_111 rfl (by decide) (by decide) rfl ?_
            refine mv_goto (tgt := 23) d_TrustDeskModel_feed_114 (by decide) ?_
            have : (10 : Int32).toInt = 10 := by decide
            refine mv_locals (lv' := [(6, .int 10), (0, .ref o0), (1, .int x1), (2, .int x2), (3, .int x3), (4, .int x4), (5, .int x5)]) (by intro q hq; simp only [List.mem_cons, List.not_mem_nil, or_false] at hq; rcases hq with rfl | rfl | rfl | rfl | rfl | rfl | rfl <;> rfl) ?_
            exact (ih14 10 T_14 M250 n_14 I251 h_q0_14 (by have := R254.1 14 _ _ rfl; first | omega | decide | exact fun h9 => absurd (by decide) h9) (by have := R254.1 14 _ _ rfl; first | omega | decide | exact fun h9 => absurd (by decide) h9) (by rw [show ((10 : Int32).toInt).toNat = 10 from by decide]; exact X258) R254 (by have := R254.1 14 _ _ rfl; omega))
          · obtain rfl : i6_14 = (10 : Int32) := Int32.toInt_inj.mp (b18.trans (by decide))
            have : (10 : Int32).toInt = 10 := by decide
            have : (11 : Int32).toInt = 11 := by decide
            rw [show ((10 : Int32).toInt).toNat = 10 from by decide] at iv2_14
            refine mv_iload d_TrustDeskModel_feed_30 rfl ?_
            refine mv_iconst (v := 4) d_TrustDeskModel_feed_32 (by decide) ?_
            refine mv_icmp_ge_t (tgt := 40) d_TrustDeskModel_feed_33 (by decide) (by decide) ?_
            refine mv_iload d_TrustDeskModel_feed_40 rfl ?_
            refine mv_bipush (v := 8) d_TrustDeskModel_feed_42 (by decide) ?_
            refine mv_icmp_ge_t (tgt := 51) d_TrustDeskModel_feed_44 (by decide) (by decide) ?_
            refine mv_iload d_TrustDeskModel_feed_51 rfl ?_
            refine mv_bipush (v := 12) d_TrustDeskModel_feed_53 (by decide) ?_
            refine mv_icmp_ge_f (tgt := 62) d_TrustDeskModel_feed_55 (by decide) (by decide) ?_
            refine mv_iload_n d_TrustDeskModel_feed_58 rfl rfl ?_
            refine mv_goto (tgt := 76) d_TrustDeskModel_feed_59 (by decide) ?_
            refine mv_istore (lv' := [(7, .int x3), (6, .int 10), (0, .ref o0), (1, .int x1), (2, .int x2), (3, .int x3), (4, .int x4), (5, .int x5)]) d_TrustDeskModel_feed_76 (by decide) rfl ?_
            refine mv_aload_n d_TrustDeskModel_feed_78 rfl rfl ?_
            obtain ⟨a260, q259, t_a260⟩ := tm_atR I_14 h_q0_14 (k := 13) rfl
            refine tr_getK q259 d_TrustDeskModel_feed_79 f_TrustDeskModel_44_13 ?_
            refine mv_aload_n d_TrustDeskModel_feed_82 rfl rfl ?_
            obtain ⟨v262, q261⟩ := tm_atI I_14 h_q0_14 (k := 14) rfl
            refine tr_getK q261 d_TrustDeskModel_feed_83 f_TrustDeskModel_189_13 ?_
            have := kKR_14.f (k := 14) q261 rfl
            have := tm_rv q261
            refine mv_iload d_TrustDeskModel_feed_86 rfl ?_
            refine mv_bipush (v := 24) d_TrustDeskModel_feed_88 (by decide) ?_
            refine mv_bipush (v := 8) d_TrustDeskModel_feed_90 (by decide) ?_
            refine mv_iload d_TrustDeskModel_feed_92 rfl ?_
            refine mv_iconst (v := 4) d_TrustDeskModel_feed_94 (by decide) ?_
            refine mv_iremv (v := 2) d_TrustDeskModel_feed_95 (by decide) (by decide) ?_
            refine mv_imulv (v := 16) d_TrustDeskModel_feed_96 (by decide) ?_
            refine mv_isubv (v := 8) d_TrustDeskModel_feed_97 (by decide) ?_
            refine mv_ishr d_TrustDeskModel_feed_98 ?_
            refine mv_i2b (v := (x3 >>> (8 &&& 31)).toInt8.toInt32) d_TrustDeskModel_feed_99 rfl ?_
            refine tr_bastE (k := 13) I_14 kKR_14 (I_14.up h_o0) q259 t_a260 (by decide) (by decide) (fun lo hi h => by cases h; exact mz_nar9 _) (Or.inl (by decide)) d_TrustDeskModel_feed_100 (vp_in_iff.mpr (by omega)) (fun M263 I264 K265 R266 E267 A268 V269 => ?_)
            have z270 := (V269 14)
            refine mv_aload_n d_TrustDeskModel_feed_101 rfl rfl ?_
            refine mv_dup d_TrustDeskModel_feed_102 rfl ?_
            refine tr_getK (k := 14) (K265 _ 13 14 _ q261) d_TrustDeskModel_feed_103 f_TrustDeskModel_189_13 ?_
            refine mv_iconst (v := 1) d_TrustDeskModel_feed_106 (by decide) ?_
            refine mv_iadd d_TrustDeskModel_feed_107 ?_
            obtain ⟨w271, h272, b273⟩ : ∃ w9 : Int32, (v262 + 1) = w9 ∧ w9.toInt = v262.toInt + 1 := ⟨_, rfl, mz_add2 rfl (by decide) (by omega) (by omega)⟩
            rw [h272]
            clear h272
            refine tr_putR (k := 14) I264 R266 h_q0_14 rfl ⟨_, rfl⟩ (fun _ h => by cases h) rfl (fun lo hi h => by cases h; have := R266.1 14 _ _ rfl; exact ⟨by show (0 : Int) ≤ w271.toInt; omega, by show w271.toInt ≤ (400 : Int); omega⟩) (Or.inl (by decide)) d_TrustDeskModel_feed_108 p_TrustDeskModel_189_13 rfl rfl (fun M274 I275 q276 K277 R278 A279 V280 => ?_)
            have z281 : rv M274 o0 14 = w271.toInt := tm_rv q276
            have X282 : pX M274 o0 (p_fk pb pn x1.toInt x2.toInt x3.toInt x4.toInt x5.toInt 11) (pn + 11) := iv2_14.put (u := (x3.toInt / 256 % 256)) (m := v262.toNatClampNeg) E267 (fun j => A279 13 (by decide) j) ((tm_rv q276).trans (by omega)) (by have := mz_nat9 (i := v262) (by omega); omega) (by omega) (by omega) (mz_sb8 x3)
            refine mv_iinc (v := 11) (lv' := [(6, .int 11), (7, .int x3), (0, .ref o0), (1, .int x1), (2, .int x2), (3, .int x3), (4, .int x4), (5, .int x5)]) d_TrustDeskModel_feed_111 rfl (by decide) (by decide) rfl ?_
            refine mv_goto (tgt := 23) d_TrustDeskModel_feed_114 (by decide) ?_
            have : (11 : Int32).toInt = 11 := by decide
            refine mv_locals (lv' := [(6, .int 11), (0, .ref o0), (1, .int x1), (2, .int x2), (3, .int x3), (4, .int x4), (5, .int x5)]) (by intro q hq; simp only [List.mem_cons, List.not_mem_nil, or_false] at hq; rcases hq with rfl | rfl | rfl | rfl | rfl | rfl | rfl <;> rfl) ?_
            exact (ih14 11 T_14 M274 n_14 I275 h_q0_14 (by have := R278.1 14 _ _ rfl; first | omega | decide | exact fun h9 => absurd (by decide) h9) (by have := R278.1 14 _ _ rfl; first | omega | decide | exact fun h9 => absurd (by decide) h9) (by rw [show ((11 : Int32).toInt).toNat = 11 from by decide]; exact X282) R278 (by have := R278.1 14 _ _ rfl; omega))
          · obtain rfl : i6_14 = (11 : Int32) := Int32.toInt_inj.mp (b18.trans (by decide))
            have : (11 : Int32).toInt = 11 := by decide
            have : (12 : Int32).toInt = 12 := by decide
            rw [show ((11 : Int32).toInt).toNat = 11 from by decide] at iv2_14
            refine mv_iload d_TrustDeskModel_feed_30 rfl ?_
            refine mv_iconst (v := 4) d_TrustDeskModel_feed_32 (by decide) ?_
            refine mv_icmp_ge_t (tgt := 40) d_TrustDeskModel_feed_33 (by decide) (by decide) ?_
            refine mv_iload d_TrustDeskModel_feed_40 rfl ?_
            refine mv_bipush (v := 8) d_TrustDeskModel_feed_42 (by decide) ?_
            refine mv_icmp_ge_t (tgt := 51) d_TrustDeskModel_feed_44 (by decide) (by decide) ?_
            refine mv_iload d_TrustDeskModel_feed_51 rfl ?_
            refine mv_bipush (v := 12) d_TrustDeskModel_feed_53 (by decide) ?_
            refine mv_icmp_ge_f (tgt := 62) d_TrustDeskModel_feed_55 (by decide) (by decide) ?_
            refine mv_iload_n d_TrustDeskModel_feed_58 rfl rfl ?_
            refine mv_goto (tgt := 76) d_TrustDeskModel_feed_59 (by decide) ?_
            refine mv_istore (lv' := [(7, .int x3), (6, .int 11), (0, .ref o0), (1, .int x1), (2, .int x2), (3, .int x3), (4, .int x4), (5, .int x5)]) d_TrustDeskModel_feed_76 (by decide) rfl ?_
            refine mv_aload_n d_TrustDeskModel_feed_78 rfl rfl ?_
            obtain ⟨a284, q283, t_a284⟩ := tm_atR I_14 h_q0_14 (k := 13) rfl
            refine tr_getK q283 d_TrustDeskModel_feed_79 f_TrustDeskModel_44_13 ?_
            refine mv_aload_n d_TrustDeskModel_feed_82 rfl rfl ?_
            obtain ⟨v286, q285⟩ := tm_atI I_14 h_q0_14 (k := 14) rfl
            refine tr_getK q285 d_TrustDeskModel_feed_83 f_TrustDeskModel_189_13 ?_
            have := kKR_14.f (k := 14) q285 rfl
            have := tm_rv q285
            refine mv_iload d_TrustDeskModel_feed_86 rfl ?_
            refine mv_bipush (v := 24) d_TrustDeskModel_feed_88 (by decide) ?_
            refine mv_bipush (v := 8) d_TrustDeskModel_feed_90 (by decide) ?_
            refine mv_iload d_TrustDeskModel_feed_92 rfl ?_
            refine mv_iconst (v := 4) d_TrustDeskModel_feed_94 (by decide) ?_
            refine mv_iremv (v := 3) d_TrustDeskModel_feed_95 (by decide) (by decide) ?_
            refine mv_imulv (v := 24) d_TrustDeskModel_feed_96 (by decide) ?_
            refine mv_isubv (v := 0) d_TrustDeskModel_feed_97 (by decide) ?_
            refine mv_ishr d_TrustDeskModel_feed_98 ?_
            refine mv_i2b (v := (x3 >>> (0 &&& 31)).toInt8.toInt32) d_TrustDeskModel_feed_99 rfl ?_
            refine tr_bastE (k := 13) I_14 kKR_14 (I_14.up h_o0) q283 t_a284 (by decide) (by decide) (fun lo hi h => by cases h; exact mz_nar9 _) (Or.inl (by decide)) d_TrustDeskModel_feed_100 (vp_in_iff.mpr (by omega)) (fun M287 I288 K289 R290 E291 A292 V293 => ?_)
            have z294 := (V293 14)
            refine mv_aload_n d_TrustDeskModel_feed_101 rfl rfl ?_
            refine mv_dup d_TrustDeskModel_feed_102 rfl ?_
            refine tr_getK (k := 14) (K289 _ 13 14 _ q285) d_TrustDeskModel_feed_103 f_TrustDeskModel_189_13 ?_
            refine mv_iconst (v := 1) d_TrustDeskModel_feed_106 (by decide) ?_
            refine mv_iadd d_TrustDeskModel_feed_107 ?_
            obtain ⟨w295, h296, b297⟩ : ∃ w9 : Int32, (v286 + 1) = w9 ∧ w9.toInt = v286.toInt + 1 := ⟨_, rfl, mz_add2 rfl (by decide) (by omega) (by omega)⟩
            rw [h296]
            clear h296
            refine tr_putR (k := 14) I288 R290 h_q0_14 rfl ⟨_, rfl⟩ (fun _ h => by cases h) rfl (fun lo hi h => by cases h; have := R290.1 14 _ _ rfl; exact ⟨by show (0 : Int) ≤ w295.toInt; omega, by show w295.toInt ≤ (400 : Int); omega⟩) (Or.inl (by decide)) d_TrustDeskModel_feed_108 p_TrustDeskModel_189_13 rfl rfl (fun M298 I299 q300 K301 R302 A303 V304 => ?_)
            have z305 : rv M298 o0 14 = w295.toInt := tm_rv q300
            have X306 : pX M298 o0 (p_fk pb pn x1.toInt x2.toInt x3.toInt x4.toInt x5.toInt 12) (pn + 12) := iv2_14.put (u := (x3.toInt / 1 % 256)) (m := v286.toNatClampNeg) E291 (fun j => A303 13 (by decide) j) ((tm_rv q300).trans (by omega)) (by have := mz_nat9 (i := v286) (by omega); omega) (by omega) (by omega) (mz_sb0 x3)
            refine mv_iinc (v := 12) (lv' := [(6, .int 12), (7, .int x3), (0, .ref o0), (1, .int x1), (2, .int x2), (3, .int x3), (4, .int x4), (5, .int x5)]) d_TrustDeskModel_feed_111 rfl (by decide) (by decide) rfl ?_
            refine mv_goto (tgt := 23) d_TrustDeskModel_feed_114 (by decide) ?_
            have : (12 : Int32).toInt = 12 := by decide
            refine mv_locals (lv' := [(6, .int 12), (0, .ref o0), (1, .int x1), (2, .int x2), (3, .int x3), (4, .int x4), (5, .int x5)]) (by intro q hq; simp only [List.mem_cons, List.not_mem_nil, or_false] at hq; rcases hq with rfl | rfl | rfl | rfl | rfl | rfl | rfl <;> rfl) ?_
            exact (ih14 12 T_14 M298 n_14 I299 h_q0_14 (by have := R302.1 14 _ _ rfl; first | omega | decide | exact fun h9 => absurd (by decide) h9) (by have := R302.1 14 _ _ rfl; first | omega | decide | exact fun h9 => absurd (by decide) h9) (by rw [show ((12 : Int32).toInt).toNat = 12 from by decide]; exact X306) R302 (by have := R302.1 14 _ _ rfl; omega))
          · obtain rfl : i6_14 = (12 : Int32) := Int32.toInt_inj.mp (b18.trans (by decide))
            have : (12 : Int32).toInt = 12 := by decide
            have : (13 : Int32).toInt = 13 := by decide
            rw [show ((12 : Int32).toInt).toNat = 12 from by decide] at iv2_14
            refine mv_iload d_TrustDeskModel_feed_30 rfl ?_
            refine mv_iconst (v := 4) d_TrustDeskModel_feed_32 (by decide) ?_
            refine mv_icmp_ge_t (tgt := 40) d_TrustDeskModel_feed_33 (by decide) (by decide) ?_
            refine mv_iload d_TrustDeskModel_feed_40 rfl ?_
            refine mv_bipush (v := 8) d_TrustDeskModel_feed_42 (by decide) ?_
            refine mv_icmp_ge_t (tgt := 51) d_TrustDeskModel_feed_44 (by decide) (by decide) ?_
            refine mv_iload d_TrustDeskModel_feed_51 rfl ?_
            refine mv_bipush (v := 12) d_TrustDeskModel_feed_53 (by decide) ?_
            refine mv_icmp_ge_t (tgt := 62) d_TrustDeskModel_feed_55 (by decide) (by decide) ?_
            refine mv_iload d_TrustDeskModel_feed_62 rfl ?_
            refine mv_bipush (v := 16) d_TrustDeskModel_feed_64 (by decide) ?_
            refine mv_icmp_ge_f (tgt := 74) d_TrustDeskModel_feed_66 (by decide) (by decide) ?_
            refine mv_iload d_TrustDeskModel_feed_69 rfl ?_
            refine mv_goto (tgt := 76) d_TrustDeskModel_feed_71 (by decide) ?_
            refine mv_istore (lv' := [(7, .int x4), (6, .int 12), (0, .ref o0), (1, .int x1), (2, .int x2), (3, .int x3), (4, .int x4), (5, .int x5)]) d_TrustDeskModel_feed_76 (by decide) rfl ?_
            refine mv_aload_n d_TrustDeskModel_feed_78 rfl rfl ?_
            obtain ⟨a308, q307, t_a308⟩ := tm_atR I_14 h_q0_14 (k := 13) rfl
            refine tr_getK q307 d_TrustDeskModel_feed_79 f_TrustDeskModel_44_13 ?_
            refine mv_aload_n d_TrustDeskModel_feed_82 rfl rfl ?_
            obtain ⟨v310, q309⟩ := tm_atI I_14 h_q0_14 (k := 14) rfl
            refine tr_getK q309 d_TrustDeskModel_feed_83 f_TrustDeskModel_189_13 ?_
            have := kKR_14.f (k := 14) q309 rfl
            have := tm_rv q309
            refine mv_iload d_TrustDeskModel_feed_86 rfl ?_
            refine mv_bipush (v := 24) d_TrustDeskModel_feed_88 (by decide) ?_
            refine mv_bipush (v := 8) d_TrustDeskModel_feed_90 (by decide) ?_
            refine mv_iload d_TrustDeskModel_feed_92 rfl ?_
            refine mv_iconst (v := 4) d_TrustDeskModel_feed_94 (by decide) ?_
            refine mv_iremv (v := 0) d_TrustDeskModel_feed_95 (by decide) (by decide) ?_
            refine mv_imulv (v := 0) d_TrustDeskModel_feed_96 (by decide) ?_
            refine mv_isubv (v := 24) d_TrustDeskModel_feed_97 (by decide) ?_
            refine mv_ishr d_TrustDeskModel_feed_98 ?_
            refine mv_i2b (v := (x4 >>> (24 &&& 31)).toInt8.toInt32) d_TrustDeskModel_feed_99 rfl ?_
            refine tr_bastE (k := 13) I_14 kKR_14 (I_14.up h_o0) q307 t_a308 (by decide) (by decide) (fun lo hi h => by cases h; exact mz_nar9 _) (Or.inl (by decide)) d_TrustDeskModel_feed_100 (vp_in_iff.mpr (by omega)) (fun M311 I312 K313 R314 E315 A316 V317 => ?_)
            have z318 := (V317 14)
            refine mv_aload_n d_TrustDeskModel_feed_101 rfl rfl ?_
            refine mv_dup d_TrustDeskModel_feed_102 rfl ?_
            refine tr_getK (k := 14) (K313 _ 13 14 _ q309) d_TrustDeskModel_feed_103 f_TrustDeskModel_189_13 ?_
            refine mv_iconst (v := 1) d_TrustDeskModel_feed_106 (by decide) ?_
            refine mv_iadd d_TrustDeskModel_feed_107 ?_
            obtain ⟨w319, h320, b321⟩ : ∃ w9 : Int32, (v310 + 1) = w9 ∧ w9.toInt = v310.toInt + 1 := ⟨_, rfl, mz_add2 rfl (by decide) (by omega) (by omega)⟩
            rw [h320]
            clear h320
            refine tr_putR (k := 14) I312 R314 h_q0_14 rfl ⟨_, rfl⟩ (fun _ h => by cases h) rfl (fun lo hi h => by cases h; have := R314.1 14 _ _ rfl; exact ⟨by show (0 : Int) ≤ w319.toInt; omega, by show w319.toInt ≤ (400 : Int); omega⟩) (Or.inl (by decide)) d_TrustDeskModel_feed_108 p_TrustDeskModel_189_13 rfl rfl (fun M322 I323 q324 K325 R326 A327 V328 => ?_)
            have z329 : rv M322 o0 14 = w319.toInt := tm_rv q324
            have X330 : pX M322 o0 (p_fk pb pn x1.toInt x2.toInt x3.toInt x4.toInt x5.toInt 13) (pn + 13) := iv2_14.put (u := (x4.toInt / 16777216 % 256)) (m := v310.toNatClampNeg) E315 (fun j => A327 13 (by decide) j) ((tm_rv q324).trans (by omega)) (by have := mz_nat9 (i := v310) (by omega); omega) (by omega) (by omega) (mz_sb24 x4)
            refine mv_iinc (v := 13) (lv' := [(6, .int 13), (7, .int x4), (0, .ref o0), (1, .int x1), (2, .int x2), (3, .int x3), (4, .int x4), (5, .int x5)]) d_TrustDeskModel_feed_111 rfl (by decide) (by decide) rfl ?_
            refine mv_goto (tgt := 23) d_TrustDeskModel_feed_114 (by decide) ?_
            have : (13 : Int32).toInt = 13 := by decide
            refine mv_locals (lv' := [(6, .int 13), (0, .ref o0), (1, .int x1), (2, .int x2), (3, .int x3), (4, .int x4), (5, .int x5)]) (by intro q hq; simp only [List.mem_cons, List.not_mem_nil, or_false] at hq; rcases hq with rfl | rfl | rfl | rfl | rfl | rfl | rfl <;> rfl) ?_
            exact (ih14 13 T_14 M322 n_14 I323 h_q0_14 (by have := R326.1 14 _ _ rfl; first | omega | decide | exact fun h9 => absurd (by decide) h9) (by have := R326.1 14 _ _ rfl; first | omega | decide | exact fun h9 => absurd (by decide) h9) (by rw [show ((13 : Int32).toInt).toNat = 13 from by decide]; exact X330) R326 (by have := R326.1 14 _ _ rfl; omega))
          · obtain rfl : i6_14 = (13 : Int32) := Int32.toInt_inj.mp (b18.trans (by decide))
            have : (13 : Int32).toInt = 13 := by decide
            have : (14 : Int32).toInt = 14 := by decide
            rw [show ((13 : Int32).toInt).toNat = 13 from by decide] at iv2_14
            refine mv_iload d_TrustDeskModel_feed_30 rfl ?_
            refine mv_iconst (v := 4) d_TrustDeskModel_feed_32 (by decide) ?_
            refine mv_icmp_ge_t (tgt := 40) d_TrustDeskModel_feed_33 (by decide) (by decide) ?_
            refine mv_iload d_TrustDeskModel_feed_40 rfl ?_
            refine mv_bipush (v := 8) d_TrustDeskModel_feed_42 (by decide) ?_
            refine mv_icmp_ge_t (tgt := 51) d_TrustDeskModel_feed_44 (by decide) (by decide) ?_
            refine mv_iload d_TrustDeskModel_feed_51 rfl ?_
            refine mv_bipush (v := 12) d_TrustDeskModel_feed_53 (by decide) ?_
            refine mv_icmp_ge_t (tgt := 62) d_TrustDeskModel_feed_55 (by decide) (by decide) ?_
            refine mv_iload d_TrustDeskModel_feed_62 rfl ?_
            refine mv_bipush (v := 16) d_TrustDeskModel_feed_64 (by decide) ?_
            refine mv_icmp_ge_f (tgt := 74) d_TrustDeskModel_feed_66 (by decide) (by decide) ?_
            refine mv_iload d_TrustDeskModel_feed_69 rfl ?_
            refine mv_goto (tgt := 76) d_TrustDeskModel_feed_71 (by decide) ?_
            refine mv_istore (lv' := [(7, .int x4), (6, .int 13), (0, .ref o0), (1, .int x1), (2, .int x2), (3, .int x3), (4, .int x4), (5, .int x5)]) d_TrustDeskModel_feed_76 (by decide) rfl ?_
            refine mv_aload_n d_TrustDeskModel_feed_78 rfl rfl ?_
            obtain ⟨a332, q331, t_a332⟩ := tm_atR I_14 h_q0_14 (k := 13) rfl
            refine tr_getK q331 d_TrustDeskModel_feed_79 f_TrustDeskModel_44_13 ?_
            refine mv_aload_n d_TrustDeskModel_feed_82 rfl rfl ?_
            obtain ⟨v334, q333⟩ := tm_atI I_14 h_q0_14 (k := 14) rfl
            refine tr_getK q333 d_TrustDeskModel_feed_83 f_TrustDeskModel_189_13 ?_
            have := kKR_14.f (k := 14) q333 rfl
            have := tm_rv q333
            refine mv_iload d_TrustDeskModel_feed_86 rfl ?_
            refine mv_bipush (v := 24) d_TrustDeskModel_feed_88 (by decide) ?_
            refine mv_bipush (v := 8) d_TrustDeskModel_feed_90 (by decide) ?_
            refine mv_iload d_TrustDeskModel_feed_92 rfl ?_
            refine mv_iconst (v := 4) d_TrustDeskModel_feed_94 (by decide) ?_
            refine mv_iremv (v := 1) d_TrustDeskModel_feed_95 (by decide) (by decide) ?_
            refine mv_imulv (v := 8) d_TrustDeskModel_feed_96 (by decide) ?_
            refine mv_isubv (v := 16) d_TrustDeskModel_feed_97 (by decide) ?_
            refine mv_ishr d_TrustDeskModel_feed_98 ?_
            refine mv_i2b (v := (x4 >>> (16 &&& 31)).toInt8.toInt32) d_TrustDeskModel_feed_99 rfl ?_
            refine tr_bastE (k := 13) I_14 kKR_14 (I_14.up h_o0) q331 t_a332 (by decide) (by decide) (fun lo hi h => by cases h; exact mz_nar9 _) (Or.inl (by decide)) d_TrustDeskModel_feed_100 (vp_in_iff.mpr (by omega)) (fun M335 I336 K337 R338 E339 A340 V341 => ?_)
            have z342 := (V341 14)
            refine mv_aload_n d_TrustDeskModel_feed_101 rfl rfl ?_
            refine mv_dup d_TrustDeskModel_feed_102 rfl ?_
            refine tr_getK (k := 14) (K337 _ 13 14 _ q333) d_TrustDeskModel_feed_103 f_TrustDeskModel_189_13 ?_
            refine mv_iconst (v := 1) d_TrustDeskModel_feed_106 (by decide) ?_
            refine mv_iadd d_TrustDeskModel_feed_107 ?_
            obtain ⟨w343, h344, b345⟩ : ∃ w9 : Int32, (v334 + 1) = w9 ∧ w9.toInt = v334.toInt + 1 := ⟨_, rfl, mz_add2 rfl (by decide) (by omega) (by omega)⟩
            rw [h344]
            clear h344
            refine tr_putR (k := 14) I336 R338 h_q0_14 rfl ⟨_, rfl⟩ (fun _ h => by cases h) rfl (fun lo hi h => by cases h; have := R338.1 14 _ _ rfl; exact ⟨by show (0 : Int) ≤ w343.toInt; omega, by show w343.toInt ≤ (400 : Int); omega⟩) (Or.inl (by decide)) d_TrustDeskModel_feed_108 p_TrustDeskModel_189_13 rfl rfl (fun M346 I347 q348 K349 R350 A351 V352 => ?_)
            have z353 : rv M346 o0 14 = w343.toInt := tm_rv q348
            have X354 : pX M346 o0 (p_fk pb pn x1.toInt x2.toInt x3.toInt x4.toInt x5.toInt 14) (pn + 14) := iv2_14.put (u := (x4.toInt / 65536 % 256)) (m := v334.toNatClampNeg) E339 (fun j => A351 13 (by decide) j) ((tm_rv q348).trans (by omega)) (by have := mz_nat9 (i := v334) (by omega); omega) (by omega) (by omega) (mz_sb16 x4)
            refine mv_iinc (v := 14) (lv' := [(6, .int 14), (7, .int x4), (0, .ref o0), (1, .int x1), (2, .int x2), (3, .int x3), (4, .int x4), (5, .int x5)]) d_TrustDeskModel_feed_111 rfl (by decide) (by decide) rfl ?_
            refine mv_goto (tgt := 23) d_TrustDeskModel_feed_114 (by decide) ?_
            have : (14 : Int32).toInt = 14 := by decide
            refine mv_locals (lv' := [(6, .int 14), (0, .ref o0), (1, .int x1), (2, .int x2), (3, .int x3), (4, .int x4), (5, .int x5)]) (by intro q hq; simp only [List.mem_cons, List.not_mem_nil, or_false] at hq; rcases hq with rfl | rfl | rfl | rfl | rfl | rfl | rfl <;> rfl) ?_
            exact (ih14 14 T_14 M346 n_14 I347 h_q0_14 (by have := R350.1 14 _ _ rfl; first | omega | decide | exact fun h9 => absurd (by decide) h9) (by have := R350.1 14 _ _ rfl; first | omega | decide | exact fun h9 => absurd (by decide) h9) (by rw [show ((14 : Int32).toInt).toNat = 14 from by decide]; exact X354) R350 (by have := R350.1 14 _ _ rfl; omega))
          · obtain rfl : i6_14 = (14 : Int32) := Int32.toInt_inj.mp (b18.trans (by decide))
            have : (14 : Int32).toInt = 14 := by decide
            have : (15 : Int32).toInt = 15 := by decide
            rw [show ((14 : Int32).toInt).toNat = 14 from by decide] at iv2_14
            refine mv_iload d_TrustDeskModel_feed_30 rfl ?_
            refine mv_iconst (v := 4) d_TrustDeskModel_feed_32 (by decide) ?_
            refine mv_icmp_ge_t (tgt := 40) d_TrustDeskModel_feed_33 (by decide) (by decide) ?_
            refine mv_iload d_TrustDeskModel_feed_40 rfl ?_
            refine mv_bipush (v := 8) d_TrustDeskModel_feed_42 (by decide) ?_
            refine mv_icmp_ge_t (tgt := 51) d_TrustDeskModel_feed_44 (by decide) (by decide) ?_
            refine mv_iload d_TrustDeskModel_feed_51 rfl ?_
            refine mv_bipush (v := 12) d_TrustDeskModel_feed_53 (by decide) ?_
            refine mv_icmp_ge_t (tgt := 62) d_TrustDeskModel_feed_55 (by decide) (by decide) ?_
            refine mv_iload d_TrustDeskModel_feed_62 rfl ?_
            refine mv_bipush (v := 16) d_TrustDeskModel_feed_64 (by decide) ?_
            refine mv_icmp_ge_f (tgt := 74) d_TrustDeskModel_feed_66 (by decide) (by decide) ?_
            refine mv_iload d_TrustDeskModel_feed_69 rfl ?_
            refine mv_goto (tgt := 76) d_TrustDeskModel_feed_71 (by decide) ?_
            refine mv_istore (lv' := [(7, .int x4), (6, .int 14), (0, .ref o0), (1, .int x1), (2, .int x2), (3, .int x3), (4, .int x4), (5, .int x5)]) d_TrustDeskModel_feed_76 (by decide) rfl ?_
            refine mv_aload_n d_TrustDeskModel_feed_78 rfl rfl ?_
            obtain ⟨a356, q355, t_a356⟩ := tm_atR I_14 h_q0_14 (k := 13) rfl
            refine tr_getK q355 d_TrustDeskModel_feed_79 f_TrustDeskModel_44_13 ?_
            refine mv_aload_n d_TrustDeskModel_feed_82 rfl rfl ?_
            obtain ⟨v358, q357⟩ := tm_atI I_14 h_q0_14 (k := 14) rfl
            refine tr_getK q357 d_TrustDeskModel_feed_83 f_TrustDeskModel_189_13 ?_
            have := kKR_14.f (k := 14) q357 rfl
            have := tm_rv q357
            refine mv_iload d_TrustDeskModel_feed_86 rfl ?_
            refine mv_bipush (v := 24) d_TrustDeskModel_feed_88 (by decide) ?_
            refine mv_bipush (v := 8) d_TrustDeskModel_feed_90 (by decide) ?_
            refine mv_iload d_TrustDeskModel_feed_92 rfl ?_
            refine mv_iconst (v := 4) d_TrustDeskModel_feed_94 (by decide) ?_
            refine mv_iremv (v := 2) d_TrustDeskModel_feed_95 (by decide) (by decide) ?_
            refine mv_imulv (v := 16) d_TrustDeskModel_feed_96 (by decide) ?_
            refine mv_isubv (v := 8) d_TrustDeskModel_feed_97 (by decide) ?_
            refine mv_ishr d_TrustDeskModel_feed_98 ?_
            refine mv_i2b (v := (x4 >>> (8 &&& 31)).toInt8.toInt32) d_TrustDeskModel_feed_99 rfl ?_
            refine tr_bastE (k := 13) I_14 kKR_14 (I_14.up h_o0) q355 t_a356 (by decide) (by decide) (fun lo hi h => by cases h; exact mz_nar9 _) (Or.inl (by decide)) d_TrustDeskModel_feed_100 (vp_in_iff.mpr (by omega)) (fun M359 I360 K361 R362 E363 A364 V365 => ?_)
            have z366 := (V365 14)
            refine mv_aload_n d_TrustDeskModel_feed_101 rfl rfl ?_
            refine mv_dup d_TrustDeskModel_feed_102 rfl ?_
            refine tr_getK (k := 14) (K361 _ 13 14 _ q357) d_TrustDeskModel_feed_103 f_TrustDeskModel_189_13 ?_
            refine mv_iconst (v := 1) d_TrustDeskModel_feed_106 (by decide) ?_
            refine mv_iadd d_TrustDeskModel_feed_107 ?_
            obtain ⟨w367, h368, b369⟩ : ∃ w9 : Int32, (v358 + 1) = w9 ∧ w9.toInt = v358.toInt + 1 := ⟨_, rfl, mz_add2 rfl (by decide) (by omega) (by omega)⟩
            rw [h368]
            clear h368
            refine tr_putR (k := 14) I360 R362 h_q0_14 rfl ⟨_, rfl⟩ (fun _ h => by cases h) rfl (fun lo hi h => by cases h; have := R362.1 14 _ _ rfl; exact ⟨by show (0 : Int) ≤ w367.toInt; omega, by show w367.toInt ≤ (400 : Int); omega⟩) (Or.inl (by decide)) d_TrustDeskModel_feed_108 p_TrustDeskModel_189_13 rfl rfl (fun M370 I371 q372 K373 R374 A375 V376 => ?_)
            have z377 : rv M370 o0 14 = w367.toInt := tm_rv q372
            have X378 : pX M370 o0 (p_fk pb pn x1.toInt x2.toInt x3.toInt x4.toInt x5.toInt 15) (pn + 15) := iv2_14.put (u := (x4.toInt / 256 % 256)) (m := v358.toNatClampNeg) E363 (fun j => A375 13 (by decide) j) ((tm_rv q372).trans (by omega)) (by have := mz_nat9 (i := v358) (by omega); omega) (by omega) (by omega) (mz_sb8 x4)
            refine mv_iinc (v := 15) (lv' := [(6, .int 15), (7, .int x4), (0, .ref o0), (1, .int x1), (2, .int x2), (3, .int x3), (4, .int x4), (5, .int x5)]) d_TrustDeskModel_feed_111 rfl (by decide) (by decide) rfl ?_
            refine mv_goto (tgt := 23) d_TrustDeskModel_feed_114 (by decide) ?_
            have : (15 : Int32).toInt = 15 := by decide
            refine mv_locals (lv' := [(6, .int 15), (0, .ref o0), (1, .int x1), (2, .int x2), (3, .int x3), (4, .int x4), (5, .int x5)]) (by intro q hq; simp only [List.mem_cons, List.not_mem_nil, or_false] at hq; rcases hq with rfl | rfl | rfl | rfl | rfl | rfl | rfl <;> rfl) ?_
            exact (ih14 15 T_14 M370 n_14 I371 h_q0_14 (by have := R374.1 14 _ _ rfl; first | omega | decide | exact fun h9 => absurd (by decide) h9) (by have := R374.1 14 _ _ rfl; first | omega | decide | exact fun h9 => absurd (by decide) h9) (by rw [show ((15 : Int32).toInt).toNat = 15 from by decide]; exact X378) R374 (by have := R374.1 14 _ _ rfl; omega))
          · obtain rfl : i6_14 = (15 : Int32) := Int32.toInt_inj.mp (b18.trans (by decide))
            have : (15 : Int32).toInt = 15 := by decide
            have : (16 : Int32).toInt = 16 := by decide
            rw [show ((15 : Int32).toInt).toNat = 15 from by decide] at iv2_14
            refine mv_iload d_TrustDeskModel_feed_30 rfl ?_
            refine mv_iconst (v := 4) d_TrustDeskModel_feed_32 (by decide) ?_
            refine mv_icmp_ge_t (tgt := 40) d_TrustDeskModel_feed_33 (by decide) (by decide) ?_
            refine mv_iload d_TrustDeskModel_feed_40 rfl ?_
            refine mv_bipush (v := 8) d_TrustDeskModel_feed_42 (by decide) ?_
            refine mv_icmp_ge_t (tgt := 51) d_TrustDeskModel_feed_44 (by decide) (by decide) ?_
            refine mv_iload d_TrustDeskModel_feed_51 rfl ?_
            refine mv_bipush (v := 12) d_TrustDeskModel_feed_53 (by decide) ?_
            refine mv_icmp_ge_t (tgt := 62) d_TrustDeskModel_feed_55 (by decide) (by decide) ?_
            refine mv_iload d_TrustDeskModel_feed_62 rfl ?_
            refine mv_bipush (v := 16) d_TrustDeskModel_feed_64 (by decide) ?_
            refine mv_icmp_ge_f (tgt := 74) d_TrustDeskModel_feed_66 (by decide) (by decide) ?_
            refine mv_iload d_TrustDeskModel_feed_69 rfl ?_
            refine mv_goto (tgt := 76) d_TrustDeskModel_feed_71 (by decide) ?_
            refine mv_istore (lv' := [(7, .int x4), (6, .int 15), (0, .ref o0), (1, .int x1), (2, .int x2), (3, .int x3), (4, .int x4), (5, .int x5)]) d_TrustDeskModel_feed_76 (by decide) rfl ?_
            refine mv_aload_n d_TrustDeskModel_feed_78 rfl rfl ?_
            obtain ⟨a380, q379, t_a380⟩ := tm_atR I_14 h_q0_14 (k := 13) rfl
            refine tr_getK q379 d_TrustDeskModel_feed_79 f_TrustDeskModel_44_13 ?_
            refine mv_aload_n d_TrustDeskModel_feed_82 rfl rfl ?_
            obtain ⟨v382, q381⟩ := tm_atI I_14 h_q0_14 (k := 14) rfl
            refine tr_getK q381 d_TrustDeskModel_feed_83 f_TrustDeskModel_189_13 ?_
            have := kKR_14.f (k := 14) q381 rfl
            have := tm_rv q381
            refine mv_iload d_TrustDeskModel_feed_86 rfl ?_
            refine mv_bipush (v := 24) d_TrustDeskModel_feed_88 (by decide) ?_
            refine mv_bipush (v := 8) d_TrustDeskModel_feed_90 (by decide) ?_
            refine mv_iload d_TrustDeskModel_feed_92 rfl ?_
            refine mv_iconst (v := 4) d_TrustDeskModel_feed_94 (by decide) ?_
            refine mv_iremv (v := 3) d_TrustDeskModel_feed_95 (by decide) (by decide) ?_
            refine mv_imulv (v := 24) d_TrustDeskModel_feed_96 (by decide) ?_
            refine mv_isubv (v := 0) d_TrustDeskModel_feed_97 (by decide) ?_
            refine mv_ishr d_TrustDeskModel_feed_98 ?_
            refine mv_i2b (v := (x4 >>> (0 &&& 31)).toInt8.toInt32) d_TrustDeskModel_feed_99 rfl ?_
            refine tr_bastE (k := 13) I_14 kKR_14 (I_14.up h_o0) q379 t_a380 (by decide) (by decide) (fun lo hi h => by cases h; exact mz_nar9 _) (Or.inl (by decide)) d_TrustDeskModel_feed_100 (vp_in_iff.mpr (by omega)) (fun M383 I384 K385 R386 E387 A388 V389 => ?_)
            have z390 := (V389 14)
            refine mv_aload_n d_TrustDeskModel_feed_101 rfl rfl ?_
            refine mv_dup d_TrustDeskModel_feed_102 rfl ?_
            refine tr_getK (k := 14) (K385 _ 13 14 _ q381) d_TrustDeskModel_feed_103 f_TrustDeskModel_189_13 ?_
            refine mv_iconst (v := 1) d_TrustDeskModel_feed_106 (by decide) ?_
            refine mv_iadd d_TrustDeskModel_feed_107 ?_
            obtain ⟨w391, h392, b393⟩ : ∃ w9 : Int32, (v382 + 1) = w9 ∧ w9.toInt = v382.toInt + 1 := ⟨_, rfl, mz_add2 rfl (by decide) (by omega) (by omega)⟩
            rw [h392]
            clear h392
            refine tr_putR (k := 14) I384 R386 h_q0_14 rfl ⟨_, rfl⟩ (fun _ h => by cases h) rfl (fun lo hi h => by cases h; have := R386.1 14 _ _ rfl; exact ⟨by show (0 : Int) ≤ w391.toInt; omega, by show w391.toInt ≤ (400 : Int); omega⟩) (Or.inl (by decide)) d_TrustDeskModel_feed_108 p_TrustDeskModel_189_13 rfl rfl (fun M394 I395 q396 K397 R398 A399 V400 => ?_)
            have z401 : rv M394 o0 14 = w391.toInt := tm_rv q396
            have X402 : pX M394 o0 (p_fk pb pn x1.toInt x2.toInt x3.toInt x4.toInt x5.toInt 16) (pn + 16) := iv2_14.put (u := (x4.toInt / 1 % 256)) (m := v382.toNatClampNeg) E387 (fun j => A399 13 (by decide) j) ((tm_rv q396).trans (by omega)) (by have := mz_nat9 (i := v382) (by omega); omega) (by omega) (by omega) (mz_sb0 x4)
            refine mv_iinc (v := 16) (lv' := [(6, .int 16), (7, .int x4), (0, .ref o0), (1, .int x1), (2, .int x2), (3, .int x3), (4, .int x4), (5, .int x5)]) d_TrustDeskModel_feed_111 rfl (by decide) (by decide) rfl ?_
            refine mv_goto (tgt := 23) d_TrustDeskModel_feed_114 (by decide) ?_
            have : (16 : Int32).toInt = 16 := by decide
            refine mv_locals (lv' := [(6, .int 16), (0, .ref o0), (1, .int x1), (2, .int x2), (3, .int x3), (4, .int x4), (5, .int x5)]) (by intro q hq; simp only [List.mem_cons, List.not_mem_nil, or_false] at hq; rcases hq with rfl | rfl | rfl | rfl | rfl | rfl | rfl <;> rfl) ?_
            exact (ih14 16 T_14 M394 n_14 I395 h_q0_14 (by have := R398.1 14 _ _ rfl; first | omega | decide | exact fun h9 => absurd (by decide) h9) (by have := R398.1 14 _ _ rfl; first | omega | decide | exact fun h9 => absurd (by decide) h9) (by rw [show ((16 : Int32).toInt).toNat = 16 from by decide]; exact X402) R398 (by have := R398.1 14 _ _ rfl; omega))
          · obtain rfl : i6_14 = (16 : Int32) := Int32.toInt_inj.mp (b18.trans (by decide))
            have : (16 : Int32).toInt = 16 := by decide
            have : (17 : Int32).toInt = 17 := by decide
            rw [show ((16 : Int32).toInt).toNat = 16 from by decide] at iv2_14
            refine mv_iload d_TrustDeskModel_feed_30 rfl ?_
            refine mv_iconst (v := 4) d_TrustDeskModel_feed_32 (by decide) ?_
            refine mv_icmp_ge_t (tgt := 40) d_TrustDeskModel_feed_33 (by decide) (by decide) ?_
            refine mv_iload d_TrustDeskModel_feed_40 rfl ?_
            refine mv_bipush (v := 8) d_TrustDeskModel_feed_42 (by decide) ?_
            refine mv_icmp_ge_t (tgt := 51) d_TrustDeskModel_feed_44 (by decide) (by decide) ?_
            refine mv_iload d_TrustDeskModel_feed_51 rfl ?_
            refine mv_bipush (v := 12) d_TrustDeskModel_feed_53 (by decide) ?_
            refine mv_icmp_ge_t (tgt := 62) d_TrustDeskModel_feed_55 (by decide) (by decide) ?_
            refine mv_iload d_TrustDeskModel_feed_62 rfl ?_
            refine mv_bipush (v := 16) d_TrustDeskModel_feed_64 (by decide) ?_
            refine mv_icmp_ge_t (tgt := 74) d_TrustDeskModel_feed_66 (by decide) (by decide) ?_
            refine mv_iload d_TrustDeskModel_feed_74 rfl ?_
            refine mv_istore (lv' := [(7, .int x5), (6, .int 16), (0, .ref o0), (1, .int x1), (2, .int x2), (3, .int x3), (4, .int x4), (5, .int x5)]) d_TrustDeskModel_feed_76 (by decide) rfl ?_
            refine mv_aload_n d_TrustDeskModel_feed_78 rfl rfl ?_
            obtain ⟨a404, q403, t_a404⟩ := tm_atR I_14 h_q0_14 (k := 13) rfl
            refine tr_getK q403 d_TrustDeskModel_feed_79 f_TrustDeskModel_44_13 ?_
            refine mv_aload_n d_TrustDeskModel_feed_82 rfl rfl ?_
            obtain ⟨v406, q405⟩ := tm_atI I_14 h_q0_14 (k := 14) rfl
            refine tr_getK q405 d_TrustDeskModel_feed_83 f_TrustDeskModel_189_13 ?_
            have := kKR_14.f (k := 14) q405 rfl
            have := tm_rv q405
            refine mv_iload d_TrustDeskModel_feed_86 rfl ?_
            refine mv_bipush (v := 24) d_TrustDeskModel_feed_88 (by decide) ?_
            refine mv_bipush (v := 8) d_TrustDeskModel_feed_90 (by decide) ?_
            refine mv_iload d_TrustDeskModel_feed_92 rfl ?_
            refine mv_iconst (v := 4) d_TrustDeskModel_feed_94 (by decide) ?_
            refine mv_iremv (v := 0) d_TrustDeskModel_feed_95 (by decide) (by decide) ?_
            refine mv_imulv (v := 0) d_TrustDeskModel_feed_96 (by decide) ?_
            refine mv_isubv (v := 24) d_TrustDeskModel_feed_97 (by decide) ?_
            refine mv_ishr d_TrustDeskModel_feed_98 ?_
            refine mv_i2b (v := (x5 >>> (24 &&& 31)).toInt8.toInt32) d_TrustDeskModel_feed_99 rfl ?_
            refine tr_bastE (k := 13) I_14 kKR_14 (I_14.up h_o0) q403 t_a404 (by decide) (by decide) (fun lo hi h => by cases h; exact mz_nar9 _) (Or.inl (by decide)) d_TrustDeskModel_feed_100 (vp_in_iff.mpr (by omega)) (fun M407 I408 K409 R410 E411 A412 V413 => ?_)
            have z414 := (V413 14)
            refine mv_aload_n d_TrustDeskModel_feed_101 rfl rfl ?_
            refine mv_dup d_TrustDeskModel_feed_102 rfl ?_
            refine tr_getK (k := 14) (K409 _ 13 14 _ q405) d_TrustDeskModel_feed_103 f_TrustDeskModel_189_13 ?_
            refine mv_iconst (v := 1) d_TrustDeskModel_feed_106 (by decide) ?_
            refine mv_iadd d_TrustDeskModel_feed_107 ?_
            obtain ⟨w415, h416, b417⟩ : ∃ w9 : Int32, (v406 + 1) = w9 ∧ w9.toInt = v406.toInt + 1 := ⟨_, rfl, mz_add2 rfl (by decide) (by omega) (by omega)⟩
            rw [h416]
            clear h416
            refine tr_putR (k := 14) I408 R410 h_q0_14 rfl ⟨_, rfl⟩ (fun _ h => by cases h) rfl (fun lo hi h => by cases h; have := R410.1 14 _ _ rfl; exact ⟨by show (0 : Int) ≤ w415.toInt; omega, by show w415.toInt ≤ (400 : Int); omega⟩) (Or.inl (by decide)) d_TrustDeskModel_feed_108 p_TrustDeskModel_189_13 rfl rfl (fun M418 I419 q420 K421 R422 A423 V424 => ?_)
            have z425 : rv M418 o0 14 = w415.toInt := tm_rv q420
            have X426 : pX M418 o0 (p_fk pb pn x1.toInt x2.toInt x3.toInt x4.toInt x5.toInt 17) (pn + 17) := iv2_14.put (u := (x5.toInt / 16777216 % 256)) (m := v406.toNatClampNeg) E411 (fun j => A423 13 (by decide) j) ((tm_rv q420).trans (by omega)) (by have := mz_nat9 (i := v406) (by omega); omega) (by omega) (by omega) (mz_sb24 x5)
            refine mv_iinc (v := 17) (lv' := [(6, .int 17), (7, .int x5), (0, .ref o0), (1, .int x1), (2, .int x2), (3, .int x3), (4, .int x4), (5, .int x5)]) d_TrustDeskModel_feed_111 rfl (by decide) (by decide) rfl ?_
            refine mv_goto (tgt := 23) d_TrustDeskModel_feed_114 (by decide) ?_
            have : (17 : Int32).toInt = 17 := by decide
            refine mv_locals (lv' := [(6, .int 17), (0, .ref o0), (1, .int x1), (2, .int x2), (3, .int x3), (4, .int x4), (5, .int x5)]) (by intro q hq; simp only [List.mem_cons, List.not_mem_nil, or_false] at hq; rcases hq with rfl | rfl | rfl | rfl | rfl | rfl | rfl <;> rfl) ?_
            exact (ih14 17 T_14 M418 n_14 I419 h_q0_14 (by have := R422.1 14 _ _ rfl; first | omega | decide | exact fun h9 => absurd (by decide) h9) (by have := R422.1 14 _ _ rfl; first | omega | decide | exact fun h9 => absurd (by decide) h9) (by rw [show ((17 : Int32).toInt).toNat = 17 from by decide]; exact X426) R422 (by have := R422.1 14 _ _ rfl; omega))
          · obtain rfl : i6_14 = (17 : Int32) := Int32.toInt_inj.mp (b18.trans (by decide))
            have : (17 : Int32).toInt = 17 := by decide
            have : (18 : Int32).toInt = 18 := by decide
            rw [show ((17 : Int32).toInt).toNat = 17 from by decide] at iv2_14
            refine mv_iload d_TrustDeskModel_feed_30 rfl ?_
            refine mv_iconst (v := 4) d_TrustDeskModel_feed_32 (by decide) ?_
            refine mv_icmp_ge_t (tgt := 40) d_TrustDeskModel_feed_33 (by decide) (by decide) ?_
            refine mv_iload d_TrustDeskModel_feed_40 rfl ?_
            refine mv_bipush (v := 8) d_TrustDeskModel_feed_42 (by decide) ?_
            refine mv_icmp_ge_t (tgt := 51) d_TrustDeskModel_feed_44 (by decide) (by decide) ?_
            refine mv_iload d_TrustDeskModel_feed_51 rfl ?_
            refine mv_bipush (v := 12) d_TrustDeskModel_feed_53 (by decide) ?_
            refine mv_icmp_ge_t (tgt := 62) d_TrustDeskModel_feed_55 (by decide) (by decide) ?_
            refine mv_iload d_TrustDeskModel_feed_62 rfl ?_
            refine mv_bipush (v := 16) d_TrustDeskModel_feed_64 (by decide) ?_
            refine mv_icmp_ge_t (tgt := 74) d_TrustDeskModel_feed_66 (by decide) (by decide) ?_
            refine mv_iload d_TrustDeskModel_feed_74 rfl ?_
            refine mv_istore (lv' := [(7, .int x5), (6, .int 17), (0, .ref o0), (1, .int x1), (2, .int x2), (3, .int x3), (4, .int x4), (5, .int x5)]) d_TrustDeskModel_feed_76 (by decide) rfl ?_
            refine mv_aload_n d_TrustDeskModel_feed_78 rfl rfl ?_
            obtain ⟨a428, q427, t_a428⟩ := tm_atR I_14 h_q0_14 (k := 13) rfl
            refine tr_getK q427 d_TrustDeskModel_feed_79 f_TrustDeskModel_44_13 ?_
            refine mv_aload_n d_TrustDeskModel_feed_82 rfl rfl ?_
            obtain ⟨v430, q429⟩ := tm_atI I_14 h_q0_14 (k := 14) rfl
            refine tr_getK q429 d_TrustDeskModel_feed_83 f_TrustDeskModel_189_13 ?_
            have := kKR_14.f (k := 14) q429 rfl
            have := tm_rv q429
            refine mv_iload d_TrustDeskModel_feed_86 rfl ?_
            refine mv_bipush (v := 24) d_TrustDeskModel_feed_88 (by decide) ?_
            refine mv_bipush (v := 8) d_TrustDeskModel_feed_90 (by decide) ?_
            refine mv_iload d_TrustDeskModel_feed_92 rfl ?_
            refine mv_iconst (v := 4) d_TrustDeskModel_feed_94 (by decide) ?_
            refine mv_iremv (v := 1) d_TrustDeskModel_feed_95 (by decide) (by decide) ?_
            refine mv_imulv (v := 8) d_TrustDeskModel_feed_96 (by decide) ?_
            refine mv_isubv (v := 16) d_TrustDeskModel_feed_97 (by decide) ?_
            refine mv_ishr d_TrustDeskModel_feed_98 ?_
            refine mv_i2b (v := (x5 >>> (16 &&& 31)).toInt8.toInt32) d_TrustDeskModel_feed_99 rfl ?_
            refine tr_bastE (k := 13) I_14 kKR_14 (I_14.up h_o0) q427 t_a428 (by decide) (by decide) (fun lo hi h => by cases h; exact mz_nar9 _) (Or.inl (by decide)) d_TrustDeskModel_feed_100 (vp_in_iff.mpr (by omega)) (fun M431 I432 K433 R434 E435 A436 V437 => ?_)
            have z438 := (V437 14)
            refine mv_aload_n d_TrustDeskModel_feed_101 rfl rfl ?_
            refine mv_dup d_TrustDeskModel_feed_102 rfl ?_
            refine tr_getK (k := 14) (K433 _ 13 14 _ q429) d_TrustDeskModel_feed_103 f_TrustDeskModel_189_13 ?_
            refine mv_iconst (v := 1) d_TrustDeskModel_feed_106 (by decide) ?_
            refine mv_iadd d_TrustDeskModel_feed_107 ?_
            obtain ⟨w439, h440, b441⟩ : ∃ w9 : Int32, (v430 + 1) = w9 ∧ w9.toInt = v430.toInt + 1 := ⟨_, rfl, mz_add2 rfl (by decide) (by omega) (by omega)⟩
            rw [h440]
            clear h440
            refine tr_putR (k := 14) I432 R434 h_q0_14 rfl ⟨_, rfl⟩ (fun _ h => by cases h) rfl (fun lo hi h => by cases h; have := R434.1 14 _ _ rfl; exact ⟨by show (0 : Int) ≤ w439.toInt; omega, by show w439.toInt ≤ (400 : Int); omega⟩) (Or.inl (by decide)) d_TrustDeskModel_feed_108 p_TrustDeskModel_189_13 rfl rfl (fun M442 I443 q444 K445 R446 A447 V448 => ?_)
            have z449 : rv M442 o0 14 = w439.toInt := tm_rv q444
            have X450 : pX M442 o0 (p_fk pb pn x1.toInt x2.toInt x3.toInt x4.toInt x5.toInt 18) (pn + 18) := iv2_14.put (u := (x5.toInt / 65536 % 256)) (m := v430.toNatClampNeg) E435 (fun j => A447 13 (by decide) j) ((tm_rv q444).trans (by omega)) (by have := mz_nat9 (i := v430) (by omega); omega) (by omega) (by omega) (mz_sb16 x5)
            refine mv_iinc (v := 18) (lv' := [(6, .int 18), (7, .int x5), (0, .ref o0), (1, .int x1), (2, .int x2), (3, .int x3), (4, .int x4), (5, .int x5)]) d_TrustDeskModel_feed_111 rfl (by decide) (by decide) rfl ?_
            refine mv_goto (tgt := 23) d_TrustDeskModel_feed_114 (by decide) ?_
            have : (18 : Int32).toInt = 18 := by decide
            refine mv_locals (lv' := [(6, .int 18), (0, .ref o0), (1, .int x1), (2, .int x2), (3, .int x3), (4, .int x4), (5, .int x5)]) (by intro q hq; simp only [List.mem_cons, List.not_mem_nil, or_false] at hq; rcases hq with rfl | rfl | rfl | rfl | rfl | rfl | rfl <;> rfl) ?_
            exact (ih14 18 T_14 M442 n_14 I443 h_q0_14 (by have := R446.1 14 _ _ rfl; first | omega | decide | exact fun h9 => absurd (by decide) h9) (by have := R446.1 14 _ _ rfl; first | omega | decide | exact fun h9 => absurd (by decide) h9) (by rw [show ((18 : Int32).toInt).toNat = 18 from by decide]; exact X450) R446 (by have := R446.1 14 _ _ rfl; omega))
          · obtain rfl : i6_14 = (18 : Int32) := Int32.toInt_inj.mp (b18.trans (by decide))
            have : (18 : Int32).toInt = 18 := by decide
            have : (19 : Int32).toInt = 19 := by decide
            rw [show ((18 : Int32).toInt).toNat = 18 from by decide] at iv2_14
            refine mv_iload d_TrustDeskModel_feed_30 rfl ?_
            refine mv_iconst (v := 4) d_TrustDeskModel_feed_32 (by decide) ?_
            refine mv_icmp_ge_t (tgt := 40) d_TrustDeskModel_feed_33 (by decide) (by decide) ?_
            refine mv_iload d_TrustDeskModel_feed_40 rfl ?_
            refine mv_bipush (v := 8) d_TrustDeskModel_feed_42 (by decide) ?_
            refine mv_icmp_ge_t (tgt := 51) d_TrustDeskModel_feed_44 (by decide) (by decide) ?_
            refine mv_iload d_TrustDeskModel_feed_51 rfl ?_
            refine mv_bipush (v := 12) d_TrustDeskModel_feed_53 (by decide) ?_
            refine mv_icmp_ge_t (tgt := 62) d_TrustDeskModel_feed_55 (by decide) (by decide) ?_
            refine mv_iload d_TrustDeskModel_feed_62 rfl ?_
            refine mv_bipush (v := 16) d_TrustDeskModel_feed_64 (by decide) ?_
            refine mv_icmp_ge_t (tgt := 74) d_TrustDeskModel_feed_66 (by decide) (by decide) ?_
            refine mv_iload d_TrustDeskModel_feed_74 rfl ?_
            refine mv_istore (lv' := [(7, .int x5), (6, .int 18), (0, .ref o0), (1, .int x1), (2, .int x2), (3, .int x3), (4, .int x4), (5, .int x5)]) d_TrustDeskModel_feed_76 (by decide) rfl ?_
            refine mv_aload_n d_TrustDeskModel_feed_78 rfl rfl ?_
            obtain ⟨a452, q451, t_a452⟩ := tm_atR I_14 h_q0_14 (k := 13) rfl
            refine tr_getK q451 d_TrustDeskModel_feed_79 f_TrustDeskModel_44_13 ?_
            refine mv_aload_n d_TrustDeskModel_feed_82 rfl rfl ?_
            obtain ⟨v454, q453⟩ := tm_atI I_14 h_q0_14 (k := 14) rfl
            refine tr_getK q453 d_TrustDeskModel_feed_83 f_TrustDeskModel_189_13 ?_
            have := kKR_14.f (k := 14) q453 rfl
            have := tm_rv q453
            refine mv_iload d_TrustDeskModel_feed_86 rfl ?_
            refine mv_bipush (v := 24) d_TrustDeskModel_feed_88 (by decide) ?_
            refine mv_bipush (v := 8) d_TrustDeskModel_feed_90 (by decide) ?_
            refine mv_iload d_TrustDeskModel_feed_92 rfl ?_
            refine mv_iconst (v := 4) d_TrustDeskModel_feed_94 (by decide) ?_
            refine mv_iremv (v := 2) d_TrustDeskModel_feed_95 (by decide) (by decide) ?_
            refine mv_imulv (v := 16) d_TrustDeskModel_feed_96 (by decide) ?_
            refine mv_isubv (v := 8) d_TrustDeskModel_feed_97 (by decide) ?_
            refine mv_ishr d_TrustDeskModel_feed_98 ?_
            refine mv_i2b (v := (x5 >>> (8 &&& 31)).toInt8.toInt32) d_TrustDeskModel_feed_99 rfl ?_
            refine tr_bastE (k := 13) I_14 kKR_14 (I_14.up h_o0) q451 t_a452 (by decide) (by decide) (fun lo hi h => by cases h; exact mz_nar9 _) (Or.inl (by decide)) d_TrustDeskModel_feed_100 (vp_in_iff.mpr (by omega)) (fun M455 I456 K457 R458 E459 A460 V461 => ?_)
            have z462 := (V461 14)
            refine mv_aload_n d_TrustDeskModel_feed_101 rfl rfl ?_
            refine mv_dup d_TrustDeskModel_feed_102 rfl ?_
            refine tr_getK (k := 14) (K457 _ 13 14 _ q453) d_TrustDeskModel_feed_103 f_TrustDeskModel_189_13 ?_
            refine mv_iconst (v := 1) d_TrustDeskModel_feed_106 (by decide) ?_
            refine mv_iadd d_TrustDeskModel_feed_107 ?_
            obtain ⟨w463, h464, b465⟩ : ∃ w9 : Int32, (v454 + 1) = w9 ∧ w9.toInt = v454.toInt + 1 := ⟨_, rfl, mz_add2 rfl (by decide) (by omega) (by omega)⟩
            rw [h464]
            clear h464
            refine tr_putR (k := 14) I456 R458 h_q0_14 rfl ⟨_, rfl⟩ (fun _ h => by cases h) rfl (fun lo hi h => by cases h; have := R458.1 14 _ _ rfl; exact ⟨by show (0 : Int) ≤ w463.toInt; omega, by show w463.toInt ≤ (400 : Int); omega⟩) (Or.inl (by decide)) d_TrustDeskModel_feed_108 p_TrustDeskModel_189_13 rfl rfl (fun M466 I467 q468 K469 R470 A471 V472 => ?_)
            have z473 : rv M466 o0 14 = w463.toInt := tm_rv q468
            have X474 : pX M466 o0 (p_fk pb pn x1.toInt x2.toInt x3.toInt x4.toInt x5.toInt 19) (pn + 19) := iv2_14.put (u := (x5.toInt / 256 % 256)) (m := v454.toNatClampNeg) E459 (fun j => A471 13 (by decide) j) ((tm_rv q468).trans (by omega)) (by have := mz_nat9 (i := v454) (by omega); omega) (by omega) (by omega) (mz_sb8 x5)
            refine mv_iinc (v := 19) (lv' := [(6, .int 19), (7, .int x5), (0, .ref o0), (1, .int x1), (2, .int x2), (3, .int x3), (4, .int x4), (5, .int x5)]) d_TrustDeskModel_feed_111 rfl (by decide) (by decide) rfl ?_
            refine mv_goto (tgt := 23) d_TrustDeskModel_feed_114 (by decide) ?_
            have : (19 : Int32).toInt = 19 := by decide
            refine mv_locals (lv' := [(6, .int 19), (0, .ref o0), (1, .int x1), (2, .int x2), (3, .int x3), (4, .int x4), (5, .int x5)]) (by intro q hq; simp only [List.mem_cons, List.not_mem_nil, or_false] at hq; rcases hq with rfl | rfl | rfl | rfl | rfl | rfl | rfl <;> rfl) ?_
            exact (ih14 19 T_14 M466 n_14 I467 h_q0_14 (by have := R470.1 14 _ _ rfl; first | omega | decide | exact fun h9 => absurd (by decide) h9) (by have := R470.1 14 _ _ rfl; first | omega | decide | exact fun h9 => absurd (by decide) h9) (by rw [show ((19 : Int32).toInt).toNat = 19 from by decide]; exact X474) R470 (by have := R470.1 14 _ _ rfl; omega))
          · obtain rfl : i6_14 = (19 : Int32) := Int32.toInt_inj.mp (b18.trans (by decide))
            have : (19 : Int32).toInt = 19 := by decide
            have : (20 : Int32).toInt = 20 := by decide
            rw [show ((19 : Int32).toInt).toNat = 19 from by decide] at iv2_14
            refine mv_iload d_TrustDeskModel_feed_30 rfl ?_
            refine mv_iconst (v := 4) d_TrustDeskModel_feed_32 (by decide) ?_
            refine mv_icmp_ge_t (tgt := 40) d_TrustDeskModel_feed_33 (by decide) (by decide) ?_
            refine mv_iload d_TrustDeskModel_feed_40 rfl ?_
            refine mv_bipush (v := 8) d_TrustDeskModel_feed_42 (by decide) ?_
            refine mv_icmp_ge_t (tgt := 51) d_TrustDeskModel_feed_44 (by decide) (by decide) ?_
            refine mv_iload d_TrustDeskModel_feed_51 rfl ?_
            refine mv_bipush (v := 12) d_TrustDeskModel_feed_53 (by decide) ?_
            refine mv_icmp_ge_t (tgt := 62) d_TrustDeskModel_feed_55 (by decide) (by decide) ?_
            refine mv_iload d_TrustDeskModel_feed_62 rfl ?_
            refine mv_bipush (v := 16) d_TrustDeskModel_feed_64 (by decide) ?_
            refine mv_icmp_ge_t (tgt := 74) d_TrustDeskModel_feed_66 (by decide) (by decide) ?_
            refine mv_iload d_TrustDeskModel_feed_74 rfl ?_
            refine mv_istore (lv' := [(7, .int x5), (6, .int 19), (0, .ref o0), (1, .int x1), (2, .int x2), (3, .int x3), (4, .int x4), (5, .int x5)]) d_TrustDeskModel_feed_76 (by decide) rfl ?_
            refine mv_aload_n d_TrustDeskModel_feed_78 rfl rfl ?_
            obtain ⟨a476, q475, t_a476⟩ := tm_atR I_14 h_q0_14 (k := 13) rfl
            refine tr_getK q475 d_TrustDeskModel_feed_79 f_TrustDeskModel_44_13 ?_
            refine mv_aload_n d_TrustDeskModel_feed_82 rfl rfl ?_
            obtain ⟨v478, q477⟩ := tm_atI I_14 h_q0_14 (k := 14) rfl
            refine tr_getK q477 d_TrustDeskModel_feed_83 f_TrustDeskModel_189_13 ?_
            have := kKR_14.f (k := 14) q477 rfl
            have := tm_rv q477
            refine mv_iload d_TrustDeskModel_feed_86 rfl ?_
            refine mv_bipush (v := 24) d_TrustDeskModel_feed_88 (by decide) ?_
            refine mv_bipush (v := 8) d_TrustDeskModel_feed_90 (by decide) ?_
            refine mv_iload d_TrustDeskModel_feed_92 rfl ?_
            refine mv_iconst (v := 4) d_TrustDeskModel_feed_94 (by decide) ?_
            refine mv_iremv (v := 3) d_TrustDeskModel_feed_95 (by decide) (by decide) ?_
            refine mv_imulv (v := 24) d_TrustDeskModel_feed_96 (by decide) ?_
            refine mv_isubv (v := 0) d_TrustDeskModel_feed_97 (by decide) ?_
            refine mv_ishr d_TrustDeskModel_feed_98 ?_
            refine mv_i2b (v := (x5 >>> (0 &&& 31)).toInt8.toInt32) d_TrustDeskModel_feed_99 rfl ?_
            refine tr_bastE (k := 13) I_14 kKR_14 (I_14.up h_o0) q475 t_a476 (by decide) (by decide) (fun lo hi h => by cases h; exact mz_nar9 _) (Or.inl (by decide)) d_TrustDeskModel_feed_100 (vp_in_iff.mpr (by omega)) (fun M479 I480 K481 R482 E483 A484 V485 => ?_)
            have z486 := (V485 14)
            refine mv_aload_n d_TrustDeskModel_feed_101 rfl rfl ?_
            refine mv_dup d_TrustDeskModel_feed_102 rfl ?_
            refine tr_getK (k := 14) (K481 _ 13 14 _ q477) d_TrustDeskModel_feed_103 f_TrustDeskModel_189_13 ?_
            refine mv_iconst (v := 1) d_TrustDeskModel_feed_106 (by decide) ?_
            refine mv_iadd d_TrustDeskModel_feed_107 ?_
            obtain ⟨w487, h488, b489⟩ : ∃ w9 : Int32, (v478 + 1) = w9 ∧ w9.toInt = v478.toInt + 1 := ⟨_, rfl, mz_add2 rfl (by decide) (by omega) (by omega)⟩
            rw [h488]
            clear h488
            refine tr_putR (k := 14) I480 R482 h_q0_14 rfl ⟨_, rfl⟩ (fun _ h => by cases h) rfl (fun lo hi h => by cases h; have := R482.1 14 _ _ rfl; exact ⟨by show (0 : Int) ≤ w487.toInt; omega, by show w487.toInt ≤ (400 : Int); omega⟩) (Or.inl (by decide)) d_TrustDeskModel_feed_108 p_TrustDeskModel_189_13 rfl rfl (fun M490 I491 q492 K493 R494 A495 V496 => ?_)
            have z497 : rv M490 o0 14 = w487.toInt := tm_rv q492
            have X498 : pX M490 o0 (p_fk pb pn x1.toInt x2.toInt x3.toInt x4.toInt x5.toInt 20) (pn + 20) := iv2_14.put (u := (x5.toInt / 1 % 256)) (m := v478.toNatClampNeg) E483 (fun j => A495 13 (by decide) j) ((tm_rv q492).trans (by omega)) (by have := mz_nat9 (i := v478) (by omega); omega) (by omega) (by omega) (mz_sb0 x5)
            refine mv_iinc (v := 20) (lv' := [(6, .int 20), (7, .int x5), (0, .ref o0), (1, .int x1), (2, .int x2), (3, .int x3), (4, .int x4), (5, .int x5)]) d_TrustDeskModel_feed_111 rfl (by decide) (by decide) rfl ?_
            refine mv_goto (tgt := 23) d_TrustDeskModel_feed_114 (by decide) ?_
            have : (20 : Int32).toInt = 20 := by decide
            refine mv_locals (lv' := [(6, .int 20), (0, .ref o0), (1, .int x1), (2, .int x2), (3, .int x3), (4, .int x4), (5, .int x5)]) (by intro q hq; simp only [List.mem_cons, List.not_mem_nil, or_false] at hq; rcases hq with rfl | rfl | rfl | rfl | rfl | rfl | rfl <;> rfl) ?_
            exact (ih14 20 T_14 M490 n_14 I491 h_q0_14 (by have := R494.1 14 _ _ rfl; first | omega | decide | exact fun h9 => absurd (by decide) h9) (by have := R494.1 14 _ _ rfl; first | omega | decide | exact fun h9 => absurd (by decide) h9) (by rw [show ((20 : Int32).toInt).toNat = 20 from by decide]; exact X498) R494 (by have := R494.1 14 _ _ rfl; omega))
    have : (0 : Int32).toInt = 0 := by decide
    exact mv_less (Nat.zero_le _) (Nat.zero_le _) (L23_14 4294967296 0 T0 M1 n0 I2 h_o0 (by have := R5.1 14 _ _ rfl; first | omega | decide | exact fun h9 => absurd (by decide) h9) (by have := R5.1 14 _ _ rfl; first | omega | decide | exact fun h9 => absurd (by decide) h9) (by rw [show ((0 : Int32).toInt).toNat = 0 from by decide]; exact K9) R5 (by show (2147483647 - (0 : Int) : Int) < _; decide))
  · refine mv_iconst (v := (-1)) d_TrustDeskModel_feed_18 (by decide) ?_
    exact mv_iret d_TrustDeskModel_feed_19 rfl (by first | rfl | decide) ⟨_, I2, _, rfl, R5, (Or.inl ⟨by decide, by omega, K9⟩)⟩
def w_TrustDeskModel_propose_z : List Nat := [1300, 1353, 20054, 20055, 20056, 20057, 20058, 20059]
set_option maxHeartbeats 100000000 in theorem tc_TrustDeskModel_propose_z {g : mj_G} {l : Launch} {d : Nat} {T0 : tm_H} {M0 : mj_M} {n0 x9 : Nat} {o0 : Nat} {x1 : Int32} {x2 : Int32} {x3 : Int32} (h_o0 : T0 o0 = some (0, 13, 0)) (yR : rI M0 o0) (y8 : ∀ i : Nat, i < 880 → 0 ≤ ra M0 o0 8 i) (yX : rX M0 o0) (I0 : tm_I tm_FT (tm_in w_TrustDeskModel_propose_z) x9 T0 M0 n0 T0 M0 n0) : mj_Met g l kY_TrustDeskModel_propose (d + 2) [.ref o0, .int x1, .int x2, .int x3] M0 n0 0 0 (tm_Q tm_FT (tm_in w_TrustDeskModel_propose_z) x9 T0 M0 n0 (fun r _ M => ∃ v : Int32, r = some (.int v) ∧ rI M o0 ∧ (rX M o0) ∧ ((v.toInt = -1 ∧ ¬ (0 ≤ x2.toInt ∧ x2.toInt < rv M0 o0 32 ∧ ((x1.toInt = 0 ∧ 0 ≤ x3.toInt ∧ x3.toInt < rv M0 o0 49) ∨ (x1.toInt = 1 ∧ 0 ≤ x3.toInt ∧ x3.toInt < rv M0 o0 32) ∨ (x1.toInt = 2 ∧ 1 ≤ x3.toInt ∧ x3.toInt ≤ 999) ∨ (x1.toInt = 3 ∧ 0 ≤ x3.toInt)) ∧ rv M0 o0 53 ≠ 40) ∧ rv M o0 53 = rv M0 o0 53) ∨ ((0 ≤ x2.toInt ∧ x2.toInt < rv M0 o0 32 ∧ ((x1.toInt = 0 ∧ 0 ≤ x3.toInt ∧ x3.toInt < rv M0 o0 49) ∨ (x1.toInt = 1 ∧ 0 ≤ x3.toInt ∧ x3.toInt < rv M0 o0 32) ∨ (x1.toInt = 2 ∧ 1 ≤ x3.toInt ∧ x3.toInt ≤ 999) ∨ (x1.toInt = 3 ∧ 0 ≤ x3.toInt)) ∧ rv M0 o0 53 ≠ 40) ∧ v.toInt = rv M0 o0 53 ∧ rv M o0 53 = rv M0 o0 53 + 1)))) := by
  refine mj_enter (by decide) (Nat.le_of_ble_eq_true rfl) ?_
  have K1 : ∀ i : Nat, i < 880 → 0 ≤ ra M0 o0 8 i := y8
  have K2 : rX M0 o0 := yX
  refine mv_aload_n d_TrustDeskModel_propose_0 rfl rfl ?_
  refine mv_iconst (v := 0) d_TrustDeskModel_propose_1 (by decide) ?_
  refine tr_putR (k := 0) I0 yR h_o0 rfl ⟨_, rfl⟩ (fun _ h => by cases h) rfl (fun lo hi h => by cases h) (Or.inl (by decide)) d_TrustDeskModel_propose_2 p_TrustDeskModel_1_13 rfl rfl (fun M3 I4 q5 K6 R7 A8 V9 => ?_)
  have z10 := (V9 32 (by decide))
  have z11 := (V9 49 (by decide))
  have z12 := (V9 53 (by decide))
  have K13 : ∀ i : Nat, i < 880 → 0 ≤ ra M3 o0 8 i := (by have e9 := ((sA_f A8 (by decide)) : sA [8] _ _ _) 8 rfl; rw [e9]; exact K1)
  have K14 : rX M3 o0 := K2.same (sA_f A8 (by decide)) (sF_f V9 (by decide))
  refine mv_aload_n d_TrustDeskModel_propose_5 rfl rfl ?_
  refine mv_iload_n d_TrustDeskModel_propose_6 rfl rfl ?_
  obtain ⟨_, b15, -⟩ := I4.1 _ _ h_o0
  refine mv_callV (kc1 := 0) (ks1 := 0) (kc' := 0) (ks' := 0) (As := [.int x2]) (st9 := [.int x2, .ref o0]) d_TrustDeskModel_propose_7 lV_TrustDeskModel_418 b15 rfl (mj_enter (by decide) (Nat.le_of_ble_eq_true rfl) ?_) rfl (Nat.le_of_ble_eq_true rfl) (Nat.le_of_ble_eq_true rfl) (Nat.le_of_ble_eq_true rfl) (hst := rfl) (fun _ _ _ h => h)
  refine mv_iload_n d_TrustDeskModel_isFund_0 rfl rfl ?_
  have := mz_hi x2
  refine mv_if_ltZ (tgt := 16) (a := x2.toInt) d_TrustDeskModel_isFund_1 (by decide) rfl (fun b16 => ?_) (fun b16 => ?_)
  · refine mv_iconst (v := 0) d_TrustDeskModel_isFund_16 (by decide) ?_
    refine mv_iret d_TrustDeskModel_isFund_17 rfl (by decide) ?_
    refine mv_if_eq_t (tgt := 34) d_TrustDeskModel_propose_10 (by decide) (by decide) ?_
    refine mv_iconst (v := (-1)) d_TrustDeskModel_propose_34 (by decide) ?_
    exact mv_iret d_TrustDeskModel_propose_35 rfl (by first | rfl | decide) ⟨_, I4, _, rfl, R7, K14, (by have e9 : ((-1) : Int32).toInt = (-1) := (by decide); have := R7.1 32 _ _ rfl; have := R7.1 49 _ _ rfl; have := R7.1 53 _ _ rfl; omega)⟩
  · refine mv_iload_n d_TrustDeskModel_isFund_4 rfl rfl ?_
    refine mv_aload_n d_TrustDeskModel_isFund_5 rfl rfl ?_
    obtain ⟨v18, q17⟩ := tm_atI I4 h_o0 (k := 32) rfl
    refine tr_getK q17 d_TrustDeskModel_isFund_6 f_TrustDeskModel_415_13 ?_
    have := R7.f (k := 32) q17 rfl
    have := (tm_rv q17).symm.trans z10
    have := tm_rv q17
    have := mz_hi x2
    have := mz_hi v18
    refine mv_icmp_geZ (tgt := 16) (a := x2.toInt) (b := v18.toInt) d_TrustDeskModel_isFund_9 (by decide) rfl rfl (fun b19 => ?_) (fun b19 => ?_)
    · refine mv_iconst (v := 0) d_TrustDeskModel_isFund_16 (by decide) ?_
      refine mv_iret d_TrustDeskModel_isFund_17 rfl (by decide) ?_
      refine mv_if_eq_t (tgt := 34) d_TrustDeskModel_propose_10 (by decide) (by decide) ?_
      refine mv_iconst (v := (-1)) d_TrustDeskModel_propose_34 (by decide) ?_
      exact mv_iret d_TrustDeskModel_propose_35 rfl (by first | rfl | decide) ⟨_, I4, _, rfl, R7, K14, (by have e9 : ((-1) : Int32).toInt = (-1) := (by decide); have := R7.1 32 _ _ rfl; have := R7.1 49 _ _ rfl; have := R7.1 53 _ _ rfl; omega)⟩
    · refine mv_iconst (v := 1) d_TrustDeskModel_isFund_12 (by decide) ?_
      refine mv_goto (tgt := 17) d_TrustDeskModel_isFund_13 (by decide) ?_
      refine mv_iret d_TrustDeskModel_isFund_17 rfl (by decide) ?_
      refine mv_if_eq_f (tgt := 34) d_TrustDeskModel_propose_10 (by decide) (by decide) ?_
      refine mv_iload_n d_TrustDeskModel_propose_13 rfl rfl ?_
      refine mv_i2l (v := x1.toInt64) d_TrustDeskModel_propose_14 rfl ?_
      refine mv_lconst (v := 0) d_TrustDeskModel_propose_15 (by decide) ?_
      refine mv_ldc2 d_TrustDeskModel_propose_16 k_TrustDeskModel_504 ?_
      refine mv_callS (kc1 := 0) (ks1 := 0) (kc' := 0) (ks' := 0) (As := [.long x1.toInt64, .long 0, .long 3]) (st9 := [.long 3, .long 0, .long x1.toInt64]) d_TrustDeskModel_propose_19 lS_TrustDeskModel_169 (mj_enter (by decide) (Nat.le_of_ble_eq_true rfl) ?_) rfl (Nat.le_of_ble_eq_true rfl) (Nat.le_of_ble_eq_true rfl) (Nat.le_of_ble_eq_true rfl) (hst := rfl) (fun _ _ _ h => h)
      refine mv_lload_n d_TrustDeskModel_within_0 rfl rfl ?_
      refine mv_lload_n d_TrustDeskModel_within_1 rfl rfl ?_
      refine mv_lltZ (tgt := 17) (a := x1.toInt) (b := 0) d_TrustDeskModel_within_2 d_TrustDeskModel_within_3 (by decide) (mz_wide _) (by decide) (fun b20 => ?_) (fun b20 => ?_)
      · refine mv_iconst (v := 0) d_TrustDeskModel_within_17 (by decide) ?_
        refine mv_iret d_TrustDeskModel_within_18 rfl (by decide) ?_
        refine mv_if_eq_t (tgt := 34) d_TrustDeskModel_propose_22 (by decide) (by decide) ?_
        refine mv_iconst (v := (-1)) d_TrustDeskModel_propose_34 (by decide) ?_
        exact mv_iret d_TrustDeskModel_propose_35 rfl (by first | rfl | decide) ⟨_, I4, _, rfl, R7, K14, (by have e9 : ((-1) : Int32).toInt = (-1) := (by decide); have := R7.1 32 _ _ rfl; have := R7.1 49 _ _ rfl; have := R7.1 53 _ _ rfl; omega)⟩
      · refine mv_lload_n d_TrustDeskModel_within_6 rfl rfl ?_
        refine mv_lload d_TrustDeskModel_within_7 rfl ?_
        refine mv_lgtZ (tgt := 17) (a := x1.toInt) (b := 3) d_TrustDeskModel_within_9 d_TrustDeskModel_within_10 (by decide) (mz_wide _) (by decide) (fun b21 => ?_) (fun b21 => ?_)
        · refine mv_iconst (v := 0) d_TrustDeskModel_within_17 (by decide) ?_
          refine mv_iret d_TrustDeskModel_within_18 rfl (by decide) ?_
          refine mv_if_eq_t (tgt := 34) d_TrustDeskModel_propose_22 (by decide) (by decide) ?_
          refine mv_iconst (v := (-1)) d_TrustDeskModel_propose_34 (by decide) ?_
          exact mv_iret d_TrustDeskModel_propose_35 rfl (by first | rfl | decide) ⟨_, I4, _, rfl, R7, K14, (by have e9 : ((-1) : Int32).toInt = (-1) := (by decide); have := R7.1 32 _ _ rfl; have := R7.1 49 _ _ rfl; have := R7.1 53 _ _ rfl; omega)⟩
        · refine mv_iconst (v := 1) d_TrustDeskModel_within_13 (by decide) ?_
          refine mv_goto (tgt := 18) d_TrustDeskModel_within_14 (by decide) ?_
          refine mv_iret d_TrustDeskModel_within_18 rfl (by decide) ?_
          refine mv_if_eq_f (tgt := 34) d_TrustDeskModel_propose_22 (by decide) (by decide) ?_
          refine mv_aload_n d_TrustDeskModel_propose_25 rfl rfl ?_
          obtain ⟨v23, q22⟩ := tm_atI I4 h_o0 (k := 53) rfl
          refine tr_getK q22 d_TrustDeskModel_propose_26 f_TrustDeskModel_501_13 ?_
          have := R7.f (k := 53) q22 rfl
          have := (tm_rv q22).symm.trans z12
          have := tm_rv q22
          refine mv_bipush (v := 40) d_TrustDeskModel_propose_29 (by decide) ?_
          have := mz_hi v23
          refine mv_icmp_neZ (tgt := 36) (a := v23.toInt) (b := 40) d_TrustDeskModel_propose_31 (by decide) rfl (by decide) (fun b24 => ?_) (fun b24 => ?_)
          · refine mv_iload_n d_TrustDeskModel_propose_36 rfl rfl ?_
            have := mz_hi x1
            refine mv_if_neZ (tgt := 60) (a := x1.toInt) d_TrustDeskModel_propose_37 (by decide) rfl (fun b25 => ?_) (fun b25 => ?_)
            · refine mv_iload_n d_TrustDeskModel_propose_60 rfl rfl ?_
              refine mv_iconst (v := 1) d_TrustDeskModel_propose_61 (by decide) ?_
              have := mz_hi x1
              refine mv_icmp_neZ (tgt := 73) (a := x1.toInt) (b := 1) d_TrustDeskModel_propose_62 (by decide) rfl (by decide) (fun b26 => ?_) (fun b26 => ?_)
              · refine mv_iload_n d_TrustDeskModel_propose_73 rfl rfl ?_
                refine mv_iconst (v := 2) d_TrustDeskModel_propose_74 (by decide) ?_
                have := mz_hi x1
                refine mv_icmp_neZ (tgt := 90) (a := x1.toInt) (b := 2) d_TrustDeskModel_propose_75 (by decide) rfl (by decide) (fun b27 => ?_) (fun b27 => ?_)
                · refine mv_iload_n d_TrustDeskModel_propose_90 rfl rfl ?_
                  have := mz_hi x3
                  refine mv_if_ltZ (tgt := 98) (a := x3.toInt) d_TrustDeskModel_propose_91 (by decide) rfl (fun b28 => ?_) (fun b28 => ?_)
                  · refine mv_iconst (v := 0) d_TrustDeskModel_propose_98 (by decide) ?_
                    refine mv_istore (lv' := [(4, .int 0), (0, .ref o0), (1, .int x1), (2, .int x2), (3, .int x3)]) d_TrustDeskModel_propose_99 (by decide) rfl ?_
                    refine mv_iload d_TrustDeskModel_propose_101 rfl ?_
                    refine mv_if_ne_f (tgt := 108) d_TrustDeskModel_propose_103 (by decide) (by decide) ?_
                    refine mv_iconst (v := (-1)) d_TrustDeskModel_propose_106 (by decide) ?_
                    exact mv_iret d_TrustDeskModel_propose_107 rfl (by first | rfl | decide) ⟨_, I4, _, rfl, R7, K14, (by have e9 : ((-1) : Int32).toInt = (-1) := (by decide); have := R7.1 32 _ _ rfl; have := R7.1 49 _ _ rfl; have := R7.1 53 _ _ rfl; omega)⟩
                  · refine mv_iconst (v := 1) d_TrustDeskModel_propose_94 (by decide) ?_
                    refine mv_goto (tgt := 99) d_TrustDeskModel_propose_95 (by decide) ?_
                    refine mv_istore (lv' := [(4, .int 1), (0, .ref o0), (1, .int x1), (2, .int x2), (3, .int x3)]) d_TrustDeskModel_propose_99 (by decide) rfl ?_
                    refine mv_iload d_TrustDeskModel_propose_101 rfl ?_
                    refine mv_if_ne_t (tgt := 108) d_TrustDeskModel_propose_103 (by decide) (by decide) ?_
                    refine mv_aload_n d_TrustDeskModel_propose_108 rfl rfl ?_
                    obtain ⟨a30, q29, t_a30⟩ := tm_atR I4 h_o0 (k := 54) rfl
                    refine tr_getK q29 d_TrustDeskModel_propose_109 f_TrustDeskModel_122_13 ?_
                    refine mv_aload_n d_TrustDeskModel_propose_112 rfl rfl ?_
                    refine tr_getK (k := 53) q22 d_TrustDeskModel_propose_113 f_TrustDeskModel_501_13 ?_
                    refine mv_iload_n d_TrustDeskModel_propose_116 rfl rfl ?_
                    refine tr_iastR (k := 54) I4 R7 (I4.up h_o0) q29 t_a30 (by decide) (by decide) (fun lo hi h => by cases h; have := R7.1 32 _ _ rfl; have := R7.1 49 _ _ rfl; have := R7.1 53 _ _ rfl; exact ⟨by show (0 : Int) ≤ x1.toInt; omega, by show x1.toInt ≤ (3 : Int); omega⟩) (Or.inl (by decide)) d_TrustDeskModel_propose_117 (vp_in_iff.mpr (by have := R7.1 32 _ _ rfl; have := R7.1 49 _ _ rfl; have := R7.1 53 _ _ rfl; omega)) (fun M31 I32 K33 R34 E35 A36 V37 => ?_)
                    have z38 := (V37 32).trans z10
                    have z39 := (V37 49).trans z11
                    have z40 := (V37 53).trans z12
                    have h41 : (rv M0 o0 53).toNat = v23.toNatClampNeg := by have := mz_nat9 (i := v23) (by have := R7.1 32 _ _ rfl; have := R7.1 49 _ _ rfl; have := R7.1 53 _ _ rfl; omega); have := R7.1 32 _ _ rfl; have := R7.1 49 _ _ rfl; have := R7.1 53 _ _ rfl; omega
                    have z42 : ra M31 o0 54 ((rv M0 o0 53).toNat) = x1.toInt := (E35 _).trans (if_pos h41)
                    have K43 : ∀ i : Nat, i < 880 → 0 ≤ ra M31 o0 8 i := (by have e9 := ((sA_a A36 (by decide +kernel)) : sA [8] _ _ _) 8 rfl; rw [e9]; exact K13)
                    have K44 : rX M31 o0 := K14.out A36 E35 V37 (Or.inl rfl) (by have := mz_nat9 (i := v23) (by have := R7.1 32 _ _ rfl; have := R7.1 49 _ _ rfl; have := R7.1 53 _ _ rfl; omega); have := R7.1 32 _ _ rfl; have := R7.1 49 _ _ rfl; have := R7.1 53 _ _ rfl; omega)
                    clear z10 z11 z12
                    refine mv_aload_n d_TrustDeskModel_propose_118 rfl rfl ?_
                    obtain ⟨a46, q45, t_a46⟩ := tm_atR I32 h_o0 (k := 55) rfl
                    refine tr_getK q45 d_TrustDeskModel_propose_119 f_TrustDeskModel_125_13 ?_
                    refine mv_aload_n d_TrustDeskModel_propose_122 rfl rfl ?_
                    refine tr_getK (k := 53) (K33 _ 13 53 _ q22) d_TrustDeskModel_propose_123 f_TrustDeskModel_501_13 ?_
                    refine mv_iload_n d_TrustDeskModel_propose_126 rfl rfl ?_
                    refine tr_iastR (k := 55) I32 R34 (I32.up h_o0) q45 t_a46 (by decide) (by decide) (fun lo hi h => by cases h; have := R34.1 32 _ _ rfl; have := R34.1 49 _ _ rfl; have := R34.1 53 _ _ rfl; exact ⟨by show (0 : Int) ≤ x2.toInt; omega, by show x2.toInt ≤ (11 : Int); omega⟩) (Or.inl (by decide)) d_TrustDeskModel_propose_127 (vp_in_iff.mpr (by have := R34.1 32 _ _ rfl; have := R34.1 49 _ _ rfl; have := R34.1 53 _ _ rfl; omega)) (fun M47 I48 K49 R50 E51 A52 V53 => ?_)
                    have z54 := (V53 32).trans z38
                    have z55 := (V53 49).trans z39
                    have z56 := (V53 53).trans z40
                    have z57 := (A52 54 (by decide) rfl ((rv M0 o0 53).toNat)).trans z42
                    have K58 : ∀ i : Nat, i < 880 → 0 ≤ ra M47 o0 8 i := (by have e9 := ((sA_a A52 (by decide +kernel)) : sA [8] _ _ _) 8 rfl; rw [e9]; exact K43)
                    have K59 : rX M47 o0 := K44.same (sA_a A52 (by decide +kernel)) (sF_a V53)
                    clear z38 z39 z40 z42
                    refine mv_aload_n d_TrustDeskModel_propose_128 rfl rfl ?_
                    obtain ⟨a61, q60, t_a61⟩ := tm_atR I48 h_o0 (k := 56) rfl
                    refine tr_getK q60 d_TrustDeskModel_propose_129 f_TrustDeskModel_128_13 ?_
                    refine mv_aload_n d_TrustDeskModel_propose_132 rfl rfl ?_
                    refine tr_getK (k := 53) (K49 _ 13 53 _ (K33 _ 13 53 _ q22)) d_TrustDeskModel_propose_133 f_TrustDeskModel_501_13 ?_
                    refine mv_iload_n d_TrustDeskModel_propose_136 rfl rfl ?_
                    refine tr_iastR (k := 56) I48 R50 (I48.up h_o0) q60 t_a61 (by decide) (by decide) (fun lo hi h => by cases h) (Or.inl (by decide)) d_TrustDeskModel_propose_137 (vp_in_iff.mpr (by have := R50.1 32 _ _ rfl; have := R50.1 49 _ _ rfl; have := R50.1 53 _ _ rfl; omega)) (fun M62 I63 K64 R65 E66 A67 V68 => ?_)
                    have z69 := (V68 32).trans z54
                    have z70 := (V68 49).trans z55
                    have z71 := (V68 53).trans z56
                    have z72 := (A67 54 (by decide) rfl ((rv M0 o0 53).toNat)).trans z57
                    have h73 : (rv M0 o0 53).toNat = v23.toNatClampNeg := by have := mz_nat9 (i := v23) (by have := R50.1 32 _ _ rfl; have := R50.1 49 _ _ rfl; have := R50.1 53 _ _ rfl; omega); have := R50.1 32 _ _ rfl; have := R50.1 49 _ _ rfl; have := R50.1 53 _ _ rfl; omega
                    have z74 : ra M62 o0 56 ((rv M0 o0 53).toNat) = x3.toInt := (E66 _).trans (if_pos h73)
                    have K75 : ∀ i : Nat, i < 880 → 0 ≤ ra M62 o0 8 i := (by have e9 := ((sA_a A67 (by decide +kernel)) : sA [8] _ _ _) 8 rfl; rw [e9]; exact K58)
                    have K76 : rX M62 o0 := K59.out A67 E66 V68 (Or.inr rfl) (by have := mz_nat9 (i := v23) (by have := R50.1 32 _ _ rfl; have := R50.1 49 _ _ rfl; have := R50.1 53 _ _ rfl; omega); have := R50.1 32 _ _ rfl; have := R50.1 49 _ _ rfl; have := R50.1 53 _ _ rfl; omega)
                    clear z54 z55 z56 z57
                    refine mv_aload_n d_TrustDeskModel_propose_138 rfl rfl ?_
                    obtain ⟨a78, q77, t_a78⟩ := tm_atR I63 h_o0 (k := 57) rfl
                    refine tr_getK q77 d_TrustDeskModel_propose_139 f_TrustDeskModel_131_13 ?_
                    refine mv_aload_n d_TrustDeskModel_propose_142 rfl rfl ?_
                    refine tr_getK (k := 53) (K64 _ 13 53 _ (K49 _ 13 53 _ (K33 _ 13 53 _ q22))) d_TrustDeskModel_propose_143 f_TrustDeskModel_501_13 ?_
                    refine mv_aload_n d_TrustDeskModel_propose_146 rfl rfl ?_
                    obtain ⟨v80, q79⟩ := tm_atI I63 h_o0 (k := 1) rfl
                    refine tr_getK q79 d_TrustDeskModel_propose_147 f_TrustDeskModel_164_13 ?_
                    have := R65.f (k := 1) q79 rfl
                    refine tr_iastR (k := 57) I63 R65 (I63.up h_o0) q77 t_a78 (by decide) (by decide) (fun lo hi h => by cases h) (Or.inl (by decide)) d_TrustDeskModel_propose_150 (vp_in_iff.mpr (by have := R65.1 32 _ _ rfl; have := R65.1 49 _ _ rfl; have := R65.1 53 _ _ rfl; omega)) (fun M81 I82 K83 R84 E85 A86 V87 => ?_)
                    have z88 := (V87 32).trans z69
                    have z89 := (V87 49).trans z70
                    have z90 := (V87 53).trans z71
                    have z91 := (A86 54 (by decide) rfl ((rv M0 o0 53).toNat)).trans z72
                    have z92 := (A86 56 (by decide) rfl ((rv M0 o0 53).toNat)).trans z74
                    have K93 : ∀ i : Nat, i < 880 → 0 ≤ ra M81 o0 8 i := (by have e9 := ((sA_a A86 (by decide +kernel)) : sA [8] _ _ _) 8 rfl; rw [e9]; exact K75)
                    have K94 : rX M81 o0 := K76.same (sA_a A86 (by decide +kernel)) (sF_a V87)
                    clear z69 z70 z71 z72 z74
                    refine mv_aload_n d_TrustDeskModel_propose_151 rfl rfl ?_
                    obtain ⟨a96, q95, t_a96⟩ := tm_atR I82 h_o0 (k := 58) rfl
                    refine tr_getK q95 d_TrustDeskModel_propose_152 f_TrustDeskModel_134_13 ?_
                    refine mv_aload_n d_TrustDeskModel_propose_155 rfl rfl ?_
                    refine tr_getK (k := 53) (K83 _ 13 53 _ (K64 _ 13 53 _ (K49 _ 13 53 _ (K33 _ 13 53 _ q22)))) d_TrustDeskModel_propose_156 f_TrustDeskModel_501_13 ?_
                    refine mv_aload_n d_TrustDeskModel_propose_159 rfl rfl ?_
                    refine tr_getK (k := 1) (K83 _ 13 1 _ q79) d_TrustDeskModel_propose_160 f_TrustDeskModel_164_13 ?_
                    refine mv_aload_n d_TrustDeskModel_propose_163 rfl rfl ?_
                    refine mv_aload_n d_TrustDeskModel_propose_164 rfl rfl ?_
                    refine tr_getK (k := 1) (K83 _ 13 1 _ q79) d_TrustDeskModel_propose_165 f_TrustDeskModel_164_13 ?_
                    refine mv_iconst (v := 2) d_TrustDeskModel_propose_168 (by decide) ?_
                    obtain ⟨_, b103, -⟩ := I82.1 _ _ h_o0
                    have : (2 : Int32).toInt = 2 := by decide
                    refine mv_callV (kc' := 0) (ks' := 0) (As := [.int v80, .int 2]) (st9 := [.int 2, .int v80, .ref o0, .int v80, .int v23, .ref a96]) d_TrustDeskModel_propose_169 lV_TrustDeskModel_396 b103 rfl (tc_TrustDeskModel_toldOn_x (d := d) (x9 := x9) (o0 := o0) (x1 := v80) (x2 := 2) h_o0 R84 K93 I82.start) rfl (Nat.le_of_ble_eq_true rfl) (Nat.le_of_ble_eq_true rfl) (Nat.le_of_ble_eq_true rfl) (hst := rfl) (fun b97r M98 n99 b97 => ?_)
                    obtain ⟨T100, J101, v104, rfl, R105, f106⟩ := b97
                    have I102 := I82.call J101 (tm_sub (by decide)) (Or.inl rfl)
                    have t107 := J101.up h_o0
                    have t108 := J101.up t_a96
                    have z109 := (rv_c I82 J101 (I82.up h_o0) (k := 32) rfl).trans z88
                    have z110 := (rv_c I82 J101 (I82.up h_o0) (k := 49) rfl).trans z89
                    have z111 := (rv_c I82 J101 (I82.up h_o0) (k := 53) rfl).trans z90
                    have z112 := (ra_call I82 J101 (I82.up h_o0) (k := 54) rfl rfl rfl ((rv M0 o0 53).toNat)).trans z91
                    have z113 := (ra_call I82 J101 (I82.up h_o0) (k := 56) rfl rfl rfl ((rv M0 o0 53).toNat)).trans z92
                    have K114 : ∀ i : Nat, i < 880 → 0 ≤ ra M98 o0 8 i := (by have e9 := ((sA_c I82 J101 (I82.up h_o0) (by decide +kernel)) : sA [8] _ _ _) 8 rfl; rw [e9]; exact K93)
                    have K115 : rX M98 o0 := K94.same (sA_c I82 J101 (I82.up h_o0) (by decide +kernel)) (sF_c I82 J101 (I82.up h_o0) (by decide +kernel))
                    clear z88 z89 z90 z91 z92
                    have q116 := J101.keep h_o0 (by decide) (K83 _ 13 0 _ (K64 _ 13 0 _ (K49 _ 13 0 _ (K33 _ 13 0 _ q5))))
                    have q117 := J101.keep h_o0 (by decide) (K83 _ 13 32 _ (K64 _ 13 32 _ (K49 _ 13 32 _ (K33 _ 13 32 _ q17))))
                    have q118 := J101.keep h_o0 (by decide) (K83 _ 13 53 _ (K64 _ 13 53 _ (K49 _ 13 53 _ (K33 _ 13 53 _ q22))))
                    have q119 := J101.keep h_o0 (by decide) (K83 _ 13 54 _ (K64 _ 13 54 _ (K49 _ 13 54 _ (K33 _ 13 54 _ q29))))
                    have t120 := J101.up t_a30
                    have q121 := J101.keep h_o0 (by decide) (K83 _ 13 55 _ (K64 _ 13 55 _ (K49 _ 13 55 _ q45)))
                    have t122 := J101.up t_a46
                    have q123 := J101.keep h_o0 (by decide) (K83 _ 13 56 _ (K64 _ 13 56 _ q60))
                    have t124 := J101.up t_a61
                    have q125 := J101.keep h_o0 (by decide) (K83 _ 13 57 _ q77)
                    have t126 := J101.up t_a78
                    have q127 := J101.keep h_o0 (by decide) (K83 _ 13 1 _ q79)
                    have q128 := J101.keep h_o0 (by decide) q95
                    refine mv_iadd d_TrustDeskModel_propose_172 ?_
                    refine tr_iastR (k := 58) I102 R105 (I102.up h_o0) q128 t108 (by decide) (by decide) (fun lo hi h => by cases h) (Or.inl (by decide)) d_TrustDeskModel_propose_173 (vp_in_iff.mpr (by have := R105.1 32 _ _ rfl; have := R105.1 49 _ _ rfl; have := R105.1 53 _ _ rfl; omega)) (fun M129 I130 K131 R132 E133 A134 V135 => ?_)
                    have z136 := (V135 32).trans z109
                    have z137 := (V135 49).trans z110
                    have z138 := (V135 53).trans z111
                    have z139 := (A134 54 (by decide) rfl ((rv M0 o0 53).toNat)).trans z112
                    have z140 := (A134 56 (by decide) rfl ((rv M0 o0 53).toNat)).trans z113
                    have K141 : ∀ i : Nat, i < 880 → 0 ≤ ra M129 o0 8 i := (by have e9 := ((sA_a A134 (by decide +kernel)) : sA [8] _ _ _) 8 rfl; rw [e9]; exact K114)
                    have K142 : rX M129 o0 := K115.same (sA_a A134 (by decide +kernel)) (sF_a V135)
                    clear z109 z110 z111 z112 z113
                    refine mv_aload_n d_TrustDeskModel_propose_174 rfl rfl ?_
                    obtain ⟨a144, q143, t_a144⟩ := tm_atR I130 t107 (k := 59) rfl
                    refine tr_getK q143 d_TrustDeskModel_propose_175 f_TrustDeskModel_137_13 ?_
                    refine mv_aload_n d_TrustDeskModel_propose_178 rfl rfl ?_
                    refine tr_getK (k := 53) (K131 _ 13 53 _ q118) d_TrustDeskModel_propose_179 f_TrustDeskModel_501_13 ?_
                    refine mv_iconst (v := 0) d_TrustDeskModel_propose_182 (by decide) ?_
                    refine tr_iastR (k := 59) I130 R132 (I130.up h_o0) q143 t_a144 (by decide) (by decide) (fun lo hi h => by cases h) (Or.inl (by decide)) d_TrustDeskModel_propose_183 (vp_in_iff.mpr (by have := R132.1 32 _ _ rfl; have := R132.1 49 _ _ rfl; have := R132.1 53 _ _ rfl; omega)) (fun M145 I146 K147 R148 E149 A150 V151 => ?_)
                    have z152 := (V151 32).trans z136
                    have z153 := (V151 49).trans z137
                    have z154 := (V151 53).trans z138
                    have z155 := (A150 54 (by decide) rfl ((rv M0 o0 53).toNat)).trans z139
                    have z156 := (A150 56 (by decide) rfl ((rv M0 o0 53).toNat)).trans z140
                    have K157 : ∀ i : Nat, i < 880 → 0 ≤ ra M145 o0 8 i := (by have e9 := ((sA_a A150 (by decide +kernel)) : sA [8] _ _ _) 8 rfl; rw [e9]; exact K141)
                    have K158 : rX M145 o0 := K142.same (sA_a A150 (by decide +kernel)) (sF_a V151)
                    clear z136 z137 z138 z139 z140
                    refine mv_aload_n d_TrustDeskModel_propose_184 rfl rfl ?_
                    refine mv_dup d_TrustDeskModel_propose_185 rfl ?_
                    refine tr_getK (k := 53) (K147 _ 13 53 _ (K131 _ 13 53 _ q118)) d_TrustDeskModel_propose_186 f_TrustDeskModel_501_13 ?_
                    refine mv_iconst (v := 1) d_TrustDeskModel_propose_189 (by decide) ?_
                    refine mv_iadd d_TrustDeskModel_propose_190 ?_
                    have b159 : (v23 + 1 : Int32).toInt = (v23.toInt + 1) := mz_add2 rfl (by decide) (by have := R148.1 32 _ _ rfl; have := R148.1 49 _ _ rfl; have := R148.1 53 _ _ rfl; omega) (by have := R148.1 32 _ _ rfl; have := R148.1 49 _ _ rfl; have := R148.1 53 _ _ rfl; omega)
                    refine tr_putR (k := 53) I146 R148 t107 rfl ⟨_, rfl⟩ (fun _ h => by cases h) rfl (fun lo hi h => by cases h; have := R148.1 32 _ _ rfl; have := R148.1 49 _ _ rfl; have := R148.1 53 _ _ rfl; exact ⟨by show (0 : Int) ≤ (v23 + 1).toInt; omega, by show (v23 + 1).toInt ≤ (40 : Int); omega⟩) (Or.inl (by decide)) d_TrustDeskModel_propose_191 p_TrustDeskModel_501_13 rfl rfl (fun M160 I161 q162 K163 R164 A165 V166 => ?_)
                    have z167 := (V166 32 (by decide)).trans z152
                    have z168 := (V166 49 (by decide)).trans z153
                    have z169 := (A165 54 (by decide) ((rv M0 o0 53).toNat)).trans z155
                    have z170 := (A165 56 (by decide) ((rv M0 o0 53).toNat)).trans z156
                    have z171 : rv M160 o0 53 = (v23 + 1).toInt := tm_rv q162
                    have K172 : ∀ i : Nat, i < 880 → 0 ≤ ra M160 o0 8 i := (by have e9 := ((sA_f A165 (by decide)) : sA [8] _ _ _) 8 rfl; rw [e9]; exact K157)
                    have K173 : rX M160 o0 := K158.inc (n := (rv M0 o0 53).toNat) A165 V166 (by omega) (by have := R148.1 32 _ _ rfl; have := R148.1 49 _ _ rfl; have := R148.1 53 _ _ rfl; omega) (by have := R148.1 32 _ _ rfl; have := R148.1 49 _ _ rfl; have := R148.1 53 _ _ rfl; omega) (fun _ => by omega) (fun _ => by omega) (fun _ => by omega)
                    clear z152 z153 z155 z156
                    refine mv_aload_n d_TrustDeskModel_propose_194 rfl rfl ?_
                    refine tr_getK (k := 53) q162 d_TrustDeskModel_propose_195 f_TrustDeskModel_501_13 ?_
                    refine mv_iconst (v := 1) d_TrustDeskModel_propose_198 (by decide) ?_
                    refine mv_isubv (v := v23) d_TrustDeskModel_propose_199 (Int32.add_sub_cancel _ _) ?_
                    exact mv_iret d_TrustDeskModel_propose_200 rfl (by first | rfl | decide) ⟨_, I161, _, rfl, R164, K173, (by have := R164.1 32 _ _ rfl; have := R164.1 49 _ _ rfl; have := R164.1 53 _ _ rfl; omega)⟩
                · refine mv_iload_n d_TrustDeskModel_propose_78 rfl rfl ?_
                  refine mv_i2l (v := x3.toInt64) d_TrustDeskModel_propose_79 rfl ?_
                  refine mv_lconst (v := 1) d_TrustDeskModel_propose_80 (by decide) ?_
                  refine mv_ldc2 d_TrustDeskModel_propose_81 k_TrustDeskModel_421 ?_
                  refine mv_callS (kc1 := 0) (ks1 := 0) (kc' := 0) (ks' := 0) (As := [.long x3.toInt64, .long 1, .long 999]) (st9 := [.long 999, .long 1, .long x3.toInt64]) d_TrustDeskModel_propose_84 lS_TrustDeskModel_169 (mj_enter (by decide) (Nat.le_of_ble_eq_true rfl) ?_) rfl (Nat.le_of_ble_eq_true rfl) (Nat.le_of_ble_eq_true rfl) (Nat.le_of_ble_eq_true rfl) (hst := rfl) (fun _ _ _ h => h)
                  refine mv_lload_n d_TrustDeskModel_within_0 rfl rfl ?_
                  refine mv_lload_n d_TrustDeskModel_within_1 rfl rfl ?_
                  refine mv_lltZ (tgt := 17) (a := x3.toInt) (b := 1) d_TrustDeskModel_within_2 d_TrustDeskModel_within_3 (by decide) (mz_wide _) (by decide) (fun b174 => ?_) (fun b174 => ?_)
                  · refine mv_iconst (v := 0) d_TrustDeskModel_within_17 (by decide) ?_
                    refine mv_iret d_TrustDeskModel_within_18 rfl (by decide) ?_
                    refine mv_goto (tgt := 99) d_TrustDeskModel_propose_87 (by decide) ?_
                    refine mv_istore (lv' := [(4, .int 0), (0, .ref o0), (1, .int x1), (2, .int x2), (3, .int x3)]) d_TrustDeskModel_propose_99 (by decide) rfl ?_
                    refine mv_iload d_TrustDeskModel_propose_101 rfl ?_
                    refine mv_if_ne_f (tgt := 108) d_TrustDeskModel_propose_103 (by decide) (by decide) ?_
                    refine mv_iconst (v := (-1)) d_TrustDeskModel_propose_106 (by decide) ?_
                    exact mv_iret d_TrustDeskModel_propose_107 rfl (by first | rfl | decide) ⟨_, I4, _, rfl, R7, K14, (by have e9 : ((-1) : Int32).toInt = (-1) := (by decide); have := R7.1 32 _ _ rfl; have := R7.1 49 _ _ rfl; have := R7.1 53 _ _ rfl; omega)⟩
                  · refine mv_lload_n d_TrustDeskModel_within_6 rfl rfl ?_
                    refine mv_lload d_TrustDeskModel_within_7 rfl ?_
                    refine mv_lgtZ (tgt := 17) (a := x3.toInt) (b := 999) d_TrustDeskModel_within_9 d_TrustDeskModel_within_10 (by decide) (mz_wide _) (by decide) (fun b175 => ?_) (fun b175 => ?_)
                    · refine mv_iconst (v := 0) d_TrustDeskModel_within_17 (by decide) ?_
                      refine mv_iret d_TrustDeskModel_within_18 rfl (by decide) ?_
                      refine mv_goto (tgt := 99) d_TrustDeskModel_propose_87 (by decide) ?_
                      refine mv_istore (lv' := [(4, .int 0), (0, .ref o0), (1, .int x1), (2, .int x2), (3, .int x3)]) d_TrustDeskModel_propose_99 (by decide) rfl ?_
                      refine mv_iload d_TrustDeskModel_propose_101 rfl ?_
                      refine mv_if_ne_f (tgt := 108) d_TrustDeskModel_propose_103 (by decide) (by decide) ?_
                      refine mv_iconst (v := (-1)) d_TrustDeskModel_propose_106 (by decide) ?_
                      exact mv_iret d_TrustDeskModel_propose_107 rfl (by first | rfl | decide) ⟨_, I4, _, rfl, R7, K14, (by have e9 : ((-1) : Int32).toInt = (-1) := (by decide); have := R7.1 32 _ _ rfl; have := R7.1 49 _ _ rfl; have := R7.1 53 _ _ rfl; omega)⟩
                    · refine mv_iconst (v := 1) d_TrustDeskModel_within_13 (by decide) ?_
                      refine mv_goto (tgt := 18) d_TrustDeskModel_within_14 (by decide) ?_
                      refine mv_iret d_TrustDeskModel_within_18 rfl (by decide) ?_
                      refine mv_goto (tgt := 99) d_TrustDeskModel_propose_87 (by decide) ?_
                      refine mv_istore (lv' := [(4, .int 1), (0, .ref o0), (1, .int x1), (2, .int x2), (3, .int x3)]) d_TrustDeskModel_propose_99 (by decide) rfl ?_
                      refine mv_iload d_TrustDeskModel_propose_101 rfl ?_
                      refine mv_if_ne_t (tgt := 108) d_TrustDeskModel_propose_103 (by decide) (by decide) ?_
                      refine mv_aload_n d_TrustDeskModel_propose_108 rfl rfl ?_
                      obtain ⟨a177, q176, t_a177⟩ := tm_atR I4 h_o0 (k := 54) rfl
                      refine tr_getK q176 d_TrustDeskModel_propose_109 f_TrustDeskModel_122_13 ?_
                      refine mv_aload_n d_TrustDeskModel_propose_112 rfl rfl ?_
                      refine tr_getK (k := 53) q22 d_TrustDeskModel_propose_113 f_TrustDeskModel_501_13 ?_
                      refine mv_iload_n d_TrustDeskModel_propose_116 rfl rfl ?_
                      refine tr_iastR (k := 54) I4 R7 (I4.up h_o0) q176 t_a177 (by decide) (by decide) (fun lo hi h => by cases h; have := R7.1 32 _ _ rfl; have := R7.1 49 _ _ rfl; have := R7.1 53 _ _ rfl; exact ⟨by show (0 : Int) ≤ x1.toInt; omega, by show x1.toInt ≤ (3 : Int); omega⟩) (Or.inl (by decide)) d_TrustDeskModel_propose_117 (vp_in_iff.mpr (by have := R7.1 32 _ _ rfl; have := R7.1 49 _ _ rfl; have := R7.1 53 _ _ rfl; omega)) (fun M178 I179 K180 R181 E182 A183 V184 => ?_)
                      have z185 := (V184 32).trans z10
                      have z186 := (V184 49).trans z11
                      have z187 := (V184 53).trans z12
                      have h188 : (rv M0 o0 53).toNat = v23.toNatClampNeg := by have := mz_nat9 (i := v23) (by have := R7.1 32 _ _ rfl; have := R7.1 49 _ _ rfl; have := R7.1 53 _ _ rfl; omega); have := R7.1 32 _ _ rfl; have := R7.1 49 _ _ rfl; have := R7.1 53 _ _ rfl; omega
                      have z189 : ra M178 o0 54 ((rv M0 o0 53).toNat) = x1.toInt := (E182 _).trans (if_pos h188)
                      have K190 : ∀ i : Nat, i < 880 → 0 ≤ ra M178 o0 8 i := (by have e9 := ((sA_a A183 (by decide +kernel)) : sA [8] _ _ _) 8 rfl; rw [e9]; exact K13)
                      have K191 : rX M178 o0 := K14.out A183 E182 V184 (Or.inl rfl) (by have := mz_nat9 (i := v23) (by have := R7.1 32 _ _ rfl; have := R7.1 49 _ _ rfl; have := R7.1 53 _ _ rfl; omega); have := R7.1 32 _ _ rfl; have := R7.1 49 _ _ rfl; have := R7.1 53 _ _ rfl; omega)
                      clear z10 z11 z12
                      refine mv_aload_n d_TrustDeskModel_propose_118 rfl rfl ?_
                      obtain ⟨a193, q192, t_a193⟩ := tm_atR I179 h_o0 (k := 55) rfl
                      refine tr_getK q192 d_TrustDeskModel_propose_119 f_TrustDeskModel_125_13 ?_
                      refine mv_aload_n d_TrustDeskModel_propose_122 rfl rfl ?_
                      refine tr_getK (k := 53) (K180 _ 13 53 _ q22) d_TrustDeskModel_propose_123 f_TrustDeskModel_501_13 ?_
                      refine mv_iload_n d_TrustDeskModel_propose_126 rfl rfl ?_
                      refine tr_iastR (k := 55) I179 R181 (I179.up h_o0) q192 t_a193 (by decide) (by decide) (fun lo hi h => by cases h; have := R181.1 32 _ _ rfl; have := R181.1 49 _ _ rfl; have := R181.1 53 _ _ rfl; exact ⟨by show (0 : Int) ≤ x2.toInt; omega, by show x2.toInt ≤ (11 : Int); omega⟩) (Or.inl (by decide)) d_TrustDeskModel_propose_127 (vp_in_iff.mpr (by have := R181.1 32 _ _ rfl; have := R181.1 49 _ _ rfl; have := R181.1 53 _ _ rfl; omega)) (fun M194 I195 K196 R197 E198 A199 V200 => ?_)
                      have z201 := (V200 32).trans z185
                      have z202 := (V200 49).trans z186
                      have z203 := (V200 53).trans z187
                      have z204 := (A199 54 (by decide) rfl ((rv M0 o0 53).toNat)).trans z189
                      have K205 : ∀ i : Nat, i < 880 → 0 ≤ ra M194 o0 8 i := (by have e9 := ((sA_a A199 (by decide +kernel)) : sA [8] _ _ _) 8 rfl; rw [e9]; exact K190)
                      have K206 : rX M194 o0 := K191.same (sA_a A199 (by decide +kernel)) (sF_a V200)
                      clear z185 z186 z187 z189
                      refine mv_aload_n d_TrustDeskModel_propose_128 rfl rfl ?_
                      obtain ⟨a208, q207, t_a208⟩ := tm_atR I195 h_o0 (k := 56) rfl
                      refine tr_getK q207 d_TrustDeskModel_propose_129 f_TrustDeskModel_128_13 ?_
                      refine mv_aload_n d_TrustDeskModel_propose_132 rfl rfl ?_
                      refine tr_getK (k := 53) (K196 _ 13 53 _ (K180 _ 13 53 _ q22)) d_TrustDeskModel_propose_133 f_TrustDeskModel_501_13 ?_
                      refine mv_iload_n d_TrustDeskModel_propose_136 rfl rfl ?_
                      refine tr_iastR (k := 56) I195 R197 (I195.up h_o0) q207 t_a208 (by decide) (by decide) (fun lo hi h => by cases h) (Or.inl (by decide)) d_TrustDeskModel_propose_137 (vp_in_iff.mpr (by have := R197.1 32 _ _ rfl; have := R197.1 49 _ _ rfl; have := R197.1 53 _ _ rfl; omega)) (fun M209 I210 K211 R212 E213 A214 V215 => ?_)
                      have z216 := (V215 32).trans z201
                      have z217 := (V215 49).trans z202
                      have z218 := (V215 53).trans z203
                      have z219 := (A214 54 (by decide) rfl ((rv M0 o0 53).toNat)).trans z204
                      have h220 : (rv M0 o0 53).toNat = v23.toNatClampNeg := by have := mz_nat9 (i := v23) (by have := R197.1 32 _ _ rfl; have := R197.1 49 _ _ rfl; have := R197.1 53 _ _ rfl; omega); have := R197.1 32 _ _ rfl; have := R197.1 49 _ _ rfl; have := R197.1 53 _ _ rfl; omega
                      have z221 : ra M209 o0 56 ((rv M0 o0 53).toNat) = x3.toInt := (E213 _).trans (if_pos h220)
                      have K222 : ∀ i : Nat, i < 880 → 0 ≤ ra M209 o0 8 i := (by have e9 := ((sA_a A214 (by decide +kernel)) : sA [8] _ _ _) 8 rfl; rw [e9]; exact K205)
                      have K223 : rX M209 o0 := K206.out A214 E213 V215 (Or.inr rfl) (by have := mz_nat9 (i := v23) (by have := R197.1 32 _ _ rfl; have := R197.1 49 _ _ rfl; have := R197.1 53 _ _ rfl; omega); have := R197.1 32 _ _ rfl; have := R197.1 49 _ _ rfl; have := R197.1 53 _ _ rfl; omega)
                      clear z201 z202 z203 z204
                      refine mv_aload_n d_TrustDeskModel_propose_138 rfl rfl ?_
                      obtain ⟨a225, q224, t_a225⟩ := tm_atR I210 h_o0 (k := 57) rfl
                      refine tr_getK q224 d_TrustDeskModel_propose_139 f_TrustDeskModel_131_13 ?_
                      refine mv_aload_n d_TrustDeskModel_propose_142 rfl rfl ?_
                      refine tr_getK (k := 53) (K211 _ 13 53 _ (K196 _ 13 53 _ (K180 _ 13 53 _ q22))) d_TrustDeskModel_propose_143 f_TrustDeskModel_501_13 ?_
                      refine mv_aload_n d_TrustDeskModel_propose_146 rfl rfl ?_
                      obtain ⟨v227, q226⟩ := tm_atI I210 h_o0 (k := 1) rfl
                      refine tr_getK q226 d_TrustDeskModel_propose_147 f_TrustDeskModel_164_13 ?_
                      have := R212.f (k := 1) q226 rfl
                      refine tr_iastR (k := 57) I210 R212 (I210.up h_o0) q224 t_a225 (by decide) (by decide) (fun lo hi h => by cases h) (Or.inl (by decide)) d_TrustDeskModel_propose_150 (vp_in_iff.mpr (by have := R212.1 32 _ _ rfl; have := R212.1 49 _ _ rfl; have := R212.1 53 _ _ rfl; omega)) (fun M228 I229 K230 R231 E232 A233 V234 => ?_)
                      have z235 := (V234 32).trans z216
                      have z236 := (V234 49).trans z217
                      have z237 := (V234 53).trans z218
                      have z238 := (A233 54 (by decide) rfl ((rv M0 o0 53).toNat)).trans z219
                      have z239 := (A233 56 (by decide) rfl ((rv M0 o0 53).toNat)).trans z221
                      have K240 : ∀ i : Nat, i < 880 → 0 ≤ ra M228 o0 8 i := (by have e9 := ((sA_a A233 (by decide +kernel)) : sA [8] _ _ _) 8 rfl; rw [e9]; exact K222)
                      have K241 : rX M228 o0 := K223.same (sA_a A233 (by decide +kernel)) (sF_a V234)
                      clear z216 z217 z218 z219 z221
                      refine mv_aload_n d_TrustDeskModel_propose_151 rfl rfl ?_
                      obtain ⟨a243, q242, t_a243⟩ := tm_atR I229 h_o0 (k := 58) rfl
                      refine tr_getK q242 d_TrustDeskModel_propose_152 f_TrustDeskModel_134_13 ?_
                      refine mv_aload_n d_TrustDeskModel_propose_155 rfl rfl ?_
                      refine tr_getK (k := 53) (K230 _ 13 53 _ (K211 _ 13 53 _ (K196 _ 13 53 _ (K180 _ 13 53 _ q22)))) d_TrustDeskModel_propose_156 f_TrustDeskModel_501_13 ?_
                      refine mv_aload_n d_TrustDeskModel_propose_159 rfl rfl ?_
                      refine tr_getK (k := 1) (K230 _ 13 1 _ q226) d_TrustDeskModel_propose_160 f_TrustDeskModel_164_13 ?_
                      refine mv_aload_n d_TrustDeskModel_propose_163 rfl rfl ?_
                      refine mv_aload_n d_TrustDeskModel_propose_164 rfl rfl ?_
                      refine tr_getK (k := 1) (K230 _ 13 1 _ q226) d_TrustDeskModel_propose_165 f_TrustDeskModel_164_13 ?_
                      refine mv_iconst (v := 2) d_TrustDeskModel_propose_168 (by decide) ?_
                      obtain ⟨_, b250, -⟩ := I229.1 _ _ h_o0
                      have : (2 : Int32).toInt = 2 := by decide
                      refine mv_callV (kc' := 0) (ks' := 0) (As := [.int v227, .int 2]) (st9 := [.int 2, .int v227, .ref o0, .int v227, .int v23, .ref a243]) d_TrustDeskModel_propose_169 lV_TrustDeskModel_396 b250 rfl (tc_TrustDeskModel_toldOn_x (d := d) (x9 := x9) (o0 := o0) (x1 := v227) (x2 := 2) h_o0 R231 K240 I229.start) rfl (Nat.le_of_ble_eq_true rfl) (Nat.le_of_ble_eq_true rfl) (Nat.le_of_ble_eq_true rfl) (hst := rfl) (fun b244r M245 n246 b244 => ?_)
                      obtain ⟨T247, J248, v251, rfl, R252, f253⟩ := b244
                      have I249 := I229.call J248 (tm_sub (by decide)) (Or.inl rfl)
                      have t254 := J248.up h_o0
                      have t255 := J248.up t_a243
                      have z256 := (rv_c I229 J248 (I229.up h_o0) (k := 32) rfl).trans z235
                      have z257 := (rv_c I229 J248 (I229.up h_o0) (k := 49) rfl).trans z236
                      have z258 := (rv_c I229 J248 (I229.up h_o0) (k := 53) rfl).trans z237
                      have z259 := (ra_call I229 J248 (I229.up h_o0) (k := 54) rfl rfl rfl ((rv M0 o0 53).toNat)).trans z238
                      have z260 := (ra_call I229 J248 (I229.up h_o0) (k := 56) rfl rfl rfl ((rv M0 o0 53).toNat)).trans z239
                      have K261 : ∀ i : Nat, i < 880 → 0 ≤ ra M245 o0 8 i := (by have e9 := ((sA_c I229 J248 (I229.up h_o0) (by decide +kernel)) : sA [8] _ _ _) 8 rfl; rw [e9]; exact K240)
                      have K262 : rX M245 o0 := K241.same (sA_c I229 J248 (I229.up h_o0) (by decide +kernel)) (sF_c I229 J248 (I229.up h_o0) (by decide +kernel))
                      clear z235 z236 z237 z238 z239
                      have q263 := J248.keep h_o0 (by decide) (K230 _ 13 0 _ (K211 _ 13 0 _ (K196 _ 13 0 _ (K180 _ 13 0 _ q5))))
                      have q264 := J248.keep h_o0 (by decide) (K230 _ 13 32 _ (K211 _ 13 32 _ (K196 _ 13 32 _ (K180 _ 13 32 _ q17))))
                      have q265 := J248.keep h_o0 (by decide) (K230 _ 13 53 _ (K211 _ 13 53 _ (K196 _ 13 53 _ (K180 _ 13 53 _ q22))))
                      have q266 := J248.keep h_o0 (by decide) (K230 _ 13 54 _ (K211 _ 13 54 _ (K196 _ 13 54 _ (K180 _ 13 54 _ q176))))
                      have t267 := J248.up t_a177
                      have q268 := J248.keep h_o0 (by decide) (K230 _ 13 55 _ (K211 _ 13 55 _ (K196 _ 13 55 _ q192)))
                      have t269 := J248.up t_a193
                      have q270 := J248.keep h_o0 (by decide) (K230 _ 13 56 _ (K211 _ 13 56 _ q207))
                      have t271 := J248.up t_a208
                      have q272 := J248.keep h_o0 (by decide) (K230 _ 13 57 _ q224)
                      have t273 := J248.up t_a225
                      have q274 := J248.keep h_o0 (by decide) (K230 _ 13 1 _ q226)
                      have q275 := J248.keep h_o0 (by decide) q242
                      refine mv_iadd d_TrustDeskModel_propose_172 ?_
                      refine tr_iastR (k := 58) I249 R252 (I249.up h_o0) q275 t255 (by decide) (by decide) (fun lo hi h => by cases h) (Or.inl (by decide)) d_TrustDeskModel_propose_173 (vp_in_iff.mpr (by have := R252.1 32 _ _ rfl; have := R252.1 49 _ _ rfl; have := R252.1 53 _ _ rfl; omega)) (fun M276 I277 K278 R279 E280 A281 V282 => ?_)
                      have z283 := (V282 32).trans z256
                      have z284 := (V282 49).trans z257
                      have z285 := (V282 53).trans z258
                      have z286 := (A281 54 (by decide) rfl ((rv M0 o0 53).toNat)).trans z259
                      have z287 := (A281 56 (by decide) rfl ((rv M0 o0 53).toNat)).trans z260
                      have K288 : ∀ i : Nat, i < 880 → 0 ≤ ra M276 o0 8 i := (by have e9 := ((sA_a A281 (by decide +kernel)) : sA [8] _ _ _) 8 rfl; rw [e9]; exact K261)
                      have K289 : rX M276 o0 := K262.same (sA_a A281 (by decide +kernel)) (sF_a V282)
                      clear z256 z257 z258 z259 z260
                      refine mv_aload_n d_TrustDeskModel_propose_174 rfl rfl ?_
                      obtain ⟨a291, q290, t_a291⟩ := tm_atR I277 t254 (k := 59) rfl
                      refine tr_getK q290 d_TrustDeskModel_propose_175 f_TrustDeskModel_137_13 ?_
                      refine mv_aload_n d_TrustDeskModel_propose_178 rfl rfl ?_
                      refine tr_getK (k := 53) (K278 _ 13 53 _ q265) d_TrustDeskModel_propose_179 f_TrustDeskModel_501_13 ?_
                      refine mv_iconst (v := 0) d_TrustDeskModel_propose_182 (by decide) ?_
                      refine tr_iastR (k := 59) I277 R279 (I277.up h_o0) q290 t_a291 (by decide) (by decide) (fun lo hi h => by cases h) (Or.inl (by decide)) d_TrustDeskModel_propose_183 (vp_in_iff.mpr (by have := R279.1 32 _ _ rfl; have := R279.1 49 _ _ rfl; have := R279.1 53 _ _ rfl; omega)) (fun M292 I293 K294 R295 E296 A297 V298 => ?_)
                      have z299 := (V298 32).trans z283
                      have z300 := (V298 49).trans z284
                      have z301 := (V298 53).trans z285
                      have z302 := (A297 54 (by decide) rfl ((rv M0 o0 53).toNat)).trans z286
                      have z303 := (A297 56 (by decide) rfl ((rv M0 o0 53).toNat)).trans z287
                      have K304 : ∀ i : Nat, i < 880 → 0 ≤ ra M292 o0 8 i := (by have e9 := ((sA_a A297 (by decide +kernel)) : sA [8] _ _ _) 8 rfl; rw [e9]; exact K288)
                      have K305 : rX M292 o0 := K289.same (sA_a A297 (by decide +kernel)) (sF_a V298)
                      clear z283 z284 z285 z286 z287
                      refine mv_aload_n d_TrustDeskModel_propose_184 rfl rfl ?_
                      refine mv_dup d_TrustDeskModel_propose_185 rfl ?_
                      refine tr_getK (k := 53) (K294 _ 13 53 _ (K278 _ 13 53 _ q265)) d_TrustDeskModel_propose_186 f_TrustDeskModel_501_13 ?_
                      refine mv_iconst (v := 1) d_TrustDeskModel_propose_189 (by decide) ?_
                      refine mv_iadd d_TrustDeskModel_propose_190 ?_
                      have b306 : (v23 + 1 : Int32).toInt = (v23.toInt + 1) := mz_add2 rfl (by decide) (by have := R295.1 32 _ _ rfl; have := R295.1 49 _ _ rfl; have := R295.1 53 _ _ rfl; omega) (by have := R295.1 32 _ _ rfl; have := R295.1 49 _ _ rfl; have := R295.1 53 _ _ rfl; omega)
                      refine tr_putR (k := 53) I293 R295 t254 rfl ⟨_, rfl⟩ (fun _ h => by cases h) rfl (fun lo hi h => by cases h; have := R295.1 32 _ _ rfl; have := R295.1 49 _ _ rfl; have := R295.1 53 _ _ rfl; exact ⟨by show (0 : Int) ≤ (v23 + 1).toInt; omega, by show (v23 + 1).toInt ≤ (40 : Int); omega⟩) (Or.inl (by decide)) d_TrustDeskModel_propose_191 p_TrustDeskModel_501_13 rfl rfl (fun M307 I308 q309 K310 R311 A312 V313 => ?_)
                      have z314 := (V313 32 (by decide)).trans z299
                      have z315 := (V313 49 (by decide)).trans z300
                      have z316 := (A312 54 (by decide) ((rv M0 o0 53).toNat)).trans z302
                      have z317 := (A312 56 (by decide) ((rv M0 o0 53).toNat)).trans z303
                      have z318 : rv M307 o0 53 = (v23 + 1).toInt := tm_rv q309
                      have K319 : ∀ i : Nat, i < 880 → 0 ≤ ra M307 o0 8 i := (by have e9 := ((sA_f A312 (by decide)) : sA [8] _ _ _) 8 rfl; rw [e9]; exact K304)
                      have K320 : rX M307 o0 := K305.inc (n := (rv M0 o0 53).toNat) A312 V313 (by omega) (by have := R295.1 32 _ _ rfl; have := R295.1 49 _ _ rfl; have := R295.1 53 _ _ rfl; omega) (by have := R295.1 32 _ _ rfl; have := R295.1 49 _ _ rfl; have := R295.1 53 _ _ rfl; omega) (fun _ => by omega) (fun _ => by omega) (fun _ => by omega)
                      clear z299 z300 z302 z303
                      refine mv_aload_n d_TrustDeskModel_propose_194 rfl rfl ?_
                      refine tr_getK (k := 53) q309 d_TrustDeskModel_propose_195 f_TrustDeskModel_501_13 ?_
                      refine mv_iconst (v := 1) d_TrustDeskModel_propose_198 (by decide) ?_
                      refine mv_isubv (v := v23) d_TrustDeskModel_propose_199 (Int32.add_sub_cancel _ _) ?_
                      exact mv_iret d_TrustDeskModel_propose_200 rfl (by first | rfl | decide) ⟨_, I308, _, rfl, R311, K320, (by have := R311.1 32 _ _ rfl; have := R311.1 49 _ _ rfl; have := R311.1 53 _ _ rfl; omega)⟩
              · refine mv_aload_n d_TrustDeskModel_propose_65 rfl rfl ?_
                refine mv_iload_n d_TrustDeskModel_propose_66 rfl rfl ?_
                obtain ⟨_, b321, -⟩ := I4.1 _ _ h_o0
                refine mv_callV (kc1 := 0) (ks1 := 0) (kc' := 0) (ks' := 0) (As := [.int x3]) (st9 := [.int x3, .ref o0]) d_TrustDeskModel_propose_67 lV_TrustDeskModel_418 b321 rfl (mj_enter (by decide) (Nat.le_of_ble_eq_true rfl) ?_) rfl (Nat.le_of_ble_eq_true rfl) (Nat.le_of_ble_eq_true rfl) (Nat.le_of_ble_eq_true rfl) (hst := rfl) (fun _ _ _ h => h)
                refine mv_iload_n d_TrustDeskModel_isFund_0 rfl rfl ?_
                have := mz_hi x3
                refine mv_if_ltZ (tgt := 16) (a := x3.toInt) d_TrustDeskModel_isFund_1 (by decide) rfl (fun b322 => ?_) (fun b322 => ?_)
                · refine mv_iconst (v := 0) d_TrustDeskModel_isFund_16 (by decide) ?_
                  refine mv_iret d_TrustDeskModel_isFund_17 rfl (by decide) ?_
                  refine mv_goto (tgt := 99) d_TrustDeskModel_propose_70 (by decide) ?_
                  refine mv_istore (lv' := [(4, .int 0), (0, .ref o0), (1, .int x1), (2, .int x2), (3, .int x3)]) d_TrustDeskModel_propose_99 (by decide) rfl ?_
                  refine mv_iload d_TrustDeskModel_propose_101 rfl ?_
                  refine mv_if_ne_f (tgt := 108) d_TrustDeskModel_propose_103 (by decide) (by decide) ?_
                  refine mv_iconst (v := (-1)) d_TrustDeskModel_propose_106 (by decide) ?_
                  exact mv_iret d_TrustDeskModel_propose_107 rfl (by first | rfl | decide) ⟨_, I4, _, rfl, R7, K14, (by have e9 : ((-1) : Int32).toInt = (-1) := (by decide); have := R7.1 32 _ _ rfl; have := R7.1 49 _ _ rfl; have := R7.1 53 _ _ rfl; omega)⟩
                · refine mv_iload_n d_TrustDeskModel_isFund_4 rfl rfl ?_
                  refine mv_aload_n d_TrustDeskModel_isFund_5 rfl rfl ?_
                  refine tr_getK (k := 32) q17 d_TrustDeskModel_isFund_6 f_TrustDeskModel_415_13 ?_
                  have := mz_hi x3
                  have := mz_hi v18
                  refine mv_icmp_geZ (tgt := 16) (a := x3.toInt) (b := v18.toInt) d_TrustDeskModel_isFund_9 (by decide) rfl rfl (fun b323 => ?_) (fun b323 => ?_)
                  · refine mv_iconst (v := 0) d_TrustDeskModel_isFund_16 (by decide) ?_
                    refine mv_iret d_TrustDeskModel_isFund_17 rfl (by decide) ?_
                    refine mv_goto (tgt := 99) d_TrustDeskModel_propose_70 (by decide) ?_
                    refine mv_istore (lv' := [(4, .int 0), (0, .ref o0), (1, .int x1), (2, .int x2), (3, .int x3)]) d_TrustDeskModel_propose_99 (by decide) rfl ?_
                    refine mv_iload d_TrustDeskModel_propose_101 rfl ?_
                    refine mv_if_ne_f (tgt := 108) d_TrustDeskModel_propose_103 (by decide) (by decide) ?_
                    refine mv_iconst (v := (-1)) d_TrustDeskModel_propose_106 (by decide) ?_
                    exact mv_iret d_TrustDeskModel_propose_107 rfl (by first | rfl | decide) ⟨_, I4, _, rfl, R7, K14, (by have e9 : ((-1) : Int32).toInt = (-1) := (by decide); have := R7.1 32 _ _ rfl; have := R7.1 49 _ _ rfl; have := R7.1 53 _ _ rfl; omega)⟩
                  · refine mv_iconst (v := 1) d_TrustDeskModel_isFund_12 (by decide) ?_
                    refine mv_goto (tgt := 17) d_TrustDeskModel_isFund_13 (by decide) ?_
                    refine mv_iret d_TrustDeskModel_isFund_17 rfl (by decide) ?_
                    refine mv_goto (tgt := 99) d_TrustDeskModel_propose_70 (by decide) ?_
                    refine mv_istore (lv' := [(4, .int 1), (0, .ref o0), (1, .int x1), (2, .int x2), (3, .int x3)]) d_TrustDeskModel_propose_99 (by decide) rfl ?_
                    refine mv_iload d_TrustDeskModel_propose_101 rfl ?_
                    refine mv_if_ne_t (tgt := 108) d_TrustDeskModel_propose_103 (by decide) (by decide) ?_
                    refine mv_aload_n d_TrustDeskModel_propose_108 rfl rfl ?_
                    obtain ⟨a325, q324, t_a325⟩ := tm_atR I4 h_o0 (k := 54) rfl
                    refine tr_getK q324 d_TrustDeskModel_propose_109 f_TrustDeskModel_122_13 ?_
                    refine mv_aload_n d_TrustDeskModel_propose_112 rfl rfl ?_
                    refine tr_getK (k := 53) q22 d_TrustDeskModel_propose_113 f_TrustDeskModel_501_13 ?_
                    refine mv_iload_n d_TrustDeskModel_propose_116 rfl rfl ?_
                    refine tr_iastR (k := 54) I4 R7 (I4.up h_o0) q324 t_a325 (by decide) (by decide) (fun lo hi h => by cases h; have := R7.1 32 _ _ rfl; have := R7.1 49 _ _ rfl; have := R7.1 53 _ _ rfl; exact ⟨by show (0 : Int) ≤ x1.toInt; omega, by show x1.toInt ≤ (3 : Int); omega⟩) (Or.inl (by decide)) d_TrustDeskModel_propose_117 (vp_in_iff.mpr (by have := R7.1 32 _ _ rfl; have := R7.1 49 _ _ rfl; have := R7.1 53 _ _ rfl; omega)) (fun M326 I327 K328 R329 E330 A331 V332 => ?_)
                    have z333 := (V332 32).trans z10
                    have z334 := (V332 49).trans z11
                    have z335 := (V332 53).trans z12
                    have h336 : (rv M0 o0 53).toNat = v23.toNatClampNeg := by have := mz_nat9 (i := v23) (by have := R7.1 32 _ _ rfl; have := R7.1 49 _ _ rfl; have := R7.1 53 _ _ rfl; omega); have := R7.1 32 _ _ rfl; have := R7.1 49 _ _ rfl; have := R7.1 53 _ _ rfl; omega
                    have z337 : ra M326 o0 54 ((rv M0 o0 53).toNat) = x1.toInt := (E330 _).trans (if_pos h336)
                    have K338 : ∀ i : Nat, i < 880 → 0 ≤ ra M326 o0 8 i := (by have e9 := ((sA_a A331 (by decide +kernel)) : sA [8] _ _ _) 8 rfl; rw [e9]; exact K13)
                    have K339 : rX M326 o0 := K14.out A331 E330 V332 (Or.inl rfl) (by have := mz_nat9 (i := v23) (by have := R7.1 32 _ _ rfl; have := R7.1 49 _ _ rfl; have := R7.1 53 _ _ rfl; omega); have := R7.1 32 _ _ rfl; have := R7.1 49 _ _ rfl; have := R7.1 53 _ _ rfl; omega)
                    clear z10 z11 z12
                    refine mv_aload_n d_TrustDeskModel_propose_118 rfl rfl ?_
                    obtain ⟨a341, q340, t_a341⟩ := tm_atR I327 h_o0 (k := 55) rfl
                    refine tr_getK q340 d_TrustDeskModel_propose_119 f_TrustDeskModel_125_13 ?_
                    refine mv_aload_n d_TrustDeskModel_propose_122 rfl rfl ?_
                    refine tr_getK (k := 53) (K328 _ 13 53 _ q22) d_TrustDeskModel_propose_123 f_TrustDeskModel_501_13 ?_
                    refine mv_iload_n d_TrustDeskModel_propose_126 rfl rfl ?_
                    refine tr_iastR (k := 55) I327 R329 (I327.up h_o0) q340 t_a341 (by decide) (by decide) (fun lo hi h => by cases h; have := R329.1 32 _ _ rfl; have := R329.1 49 _ _ rfl; have := R329.1 53 _ _ rfl; exact ⟨by show (0 : Int) ≤ x2.toInt; omega, by show x2.toInt ≤ (11 : Int); omega⟩) (Or.inl (by decide)) d_TrustDeskModel_propose_127 (vp_in_iff.mpr (by have := R329.1 32 _ _ rfl; have := R329.1 49 _ _ rfl; have := R329.1 53 _ _ rfl; omega)) (fun M342 I343 K344 R345 E346 A347 V348 => ?_)
                    have z349 := (V348 32).trans z333
                    have z350 := (V348 49).trans z334
                    have z351 := (V348 53).trans z335
                    have z352 := (A347 54 (by decide) rfl ((rv M0 o0 53).toNat)).trans z337
                    have K353 : ∀ i : Nat, i < 880 → 0 ≤ ra M342 o0 8 i := (by have e9 := ((sA_a A347 (by decide +kernel)) : sA [8] _ _ _) 8 rfl; rw [e9]; exact K338)
                    have K354 : rX M342 o0 := K339.same (sA_a A347 (by decide +kernel)) (sF_a V348)
                    clear z333 z334 z335 z337
                    refine mv_aload_n d_TrustDeskModel_propose_128 rfl rfl ?_
                    obtain ⟨a356, q355, t_a356⟩ := tm_atR I343 h_o0 (k := 56) rfl
                    refine tr_getK q355 d_TrustDeskModel_propose_129 f_TrustDeskModel_128_13 ?_
                    refine mv_aload_n d_TrustDeskModel_propose_132 rfl rfl ?_
                    refine tr_getK (k := 53) (K344 _ 13 53 _ (K328 _ 13 53 _ q22)) d_TrustDeskModel_propose_133 f_TrustDeskModel_501_13 ?_
                    refine mv_iload_n d_TrustDeskModel_propose_136 rfl rfl ?_
                    refine tr_iastR (k := 56) I343 R345 (I343.up h_o0) q355 t_a356 (by decide) (by decide) (fun lo hi h => by cases h) (Or.inl (by decide)) d_TrustDeskModel_propose_137 (vp_in_iff.mpr (by have := R345.1 32 _ _ rfl; have := R345.1 49 _ _ rfl; have := R345.1 53 _ _ rfl; omega)) (fun M357 I358 K359 R360 E361 A362 V363 => ?_)
                    have z364 := (V363 32).trans z349
                    have z365 := (V363 49).trans z350
                    have z366 := (V363 53).trans z351
                    have z367 := (A362 54 (by decide) rfl ((rv M0 o0 53).toNat)).trans z352
                    have h368 : (rv M0 o0 53).toNat = v23.toNatClampNeg := by have := mz_nat9 (i := v23) (by have := R345.1 32 _ _ rfl; have := R345.1 49 _ _ rfl; have := R345.1 53 _ _ rfl; omega); have := R345.1 32 _ _ rfl; have := R345.1 49 _ _ rfl; have := R345.1 53 _ _ rfl; omega
                    have z369 : ra M357 o0 56 ((rv M0 o0 53).toNat) = x3.toInt := (E361 _).trans (if_pos h368)
                    have K370 : ∀ i : Nat, i < 880 → 0 ≤ ra M357 o0 8 i := (by have e9 := ((sA_a A362 (by decide +kernel)) : sA [8] _ _ _) 8 rfl; rw [e9]; exact K353)
                    have K371 : rX M357 o0 := K354.out A362 E361 V363 (Or.inr rfl) (by have := mz_nat9 (i := v23) (by have := R345.1 32 _ _ rfl; have := R345.1 49 _ _ rfl; have := R345.1 53 _ _ rfl; omega); have := R345.1 32 _ _ rfl; have := R345.1 49 _ _ rfl; have := R345.1 53 _ _ rfl; omega)
                    clear z349 z350 z351 z352
                    refine mv_aload_n d_TrustDeskModel_propose_138 rfl rfl ?_
                    obtain ⟨a373, q372, t_a373⟩ := tm_atR I358 h_o0 (k := 57) rfl
                    refine tr_getK q372 d_TrustDeskModel_propose_139 f_TrustDeskModel_131_13 ?_
                    refine mv_aload_n d_TrustDeskModel_propose_142 rfl rfl ?_
                    refine tr_getK (k := 53) (K359 _ 13 53 _ (K344 _ 13 53 _ (K328 _ 13 53 _ q22))) d_TrustDeskModel_propose_143 f_TrustDeskModel_501_13 ?_
                    refine mv_aload_n d_TrustDeskModel_propose_146 rfl rfl ?_
                    obtain ⟨v375, q374⟩ := tm_atI I358 h_o0 (k := 1) rfl
                    refine tr_getK q374 d_TrustDeskModel_propose_147 f_TrustDeskModel_164_13 ?_
                    have := R360.f (k := 1) q374 rfl
                    refine tr_iastR (k := 57) I358 R360 (I358.up h_o0) q372 t_a373 (by decide) (by decide) (fun lo hi h => by cases h) (Or.inl (by decide)) d_TrustDeskModel_propose_150 (vp_in_iff.mpr (by have := R360.1 32 _ _ rfl; have := R360.1 49 _ _ rfl; have := R360.1 53 _ _ rfl; omega)) (fun M376 I377 K378 R379 E380 A381 V382 => ?_)
                    have z383 := (V382 32).trans z364
                    have z384 := (V382 49).trans z365
                    have z385 := (V382 53).trans z366
                    have z386 := (A381 54 (by decide) rfl ((rv M0 o0 53).toNat)).trans z367
                    have z387 := (A381 56 (by decide) rfl ((rv M0 o0 53).toNat)).trans z369
                    have K388 : ∀ i : Nat, i < 880 → 0 ≤ ra M376 o0 8 i := (by have e9 := ((sA_a A381 (by decide +kernel)) : sA [8] _ _ _) 8 rfl; rw [e9]; exact K370)
                    have K389 : rX M376 o0 := K371.same (sA_a A381 (by decide +kernel)) (sF_a V382)
                    clear z364 z365 z366 z367 z369
                    refine mv_aload_n d_TrustDeskModel_propose_151 rfl rfl ?_
                    obtain ⟨a391, q390, t_a391⟩ := tm_atR I377 h_o0 (k := 58) rfl
                    refine tr_getK q390 d_TrustDeskModel_propose_152 f_TrustDeskModel_134_13 ?_
                    refine mv_aload_n d_TrustDeskModel_propose_155 rfl rfl ?_
                    refine tr_getK (k := 53) (K378 _ 13 53 _ (K359 _ 13 53 _ (K344 _ 13 53 _ (K328 _ 13 53 _ q22)))) d_TrustDeskModel_propose_156 f_TrustDeskModel_501_13 ?_
                    refine mv_aload_n d_TrustDeskModel_propose_159 rfl rfl ?_
                    refine tr_getK (k := 1) (K378 _ 13 1 _ q374) d_TrustDeskModel_propose_160 f_TrustDeskModel_164_13 ?_
                    refine mv_aload_n d_TrustDeskModel_propose_163 rfl rfl ?_
                    refine mv_aload_n d_TrustDeskModel_propose_164 rfl rfl ?_
                    refine tr_getK (k := 1) (K378 _ 13 1 _ q374) d_TrustDeskModel_propose_165 f_TrustDeskModel_164_13 ?_
                    refine mv_iconst (v := 2) d_TrustDeskModel_propose_168 (by decide) ?_
                    obtain ⟨_, b398, -⟩ := I377.1 _ _ h_o0
                    have : (2 : Int32).toInt = 2 := by decide
                    refine mv_callV (kc' := 0) (ks' := 0) (As := [.int v375, .int 2]) (st9 := [.int 2, .int v375, .ref o0, .int v375, .int v23, .ref a391]) d_TrustDeskModel_propose_169 lV_TrustDeskModel_396 b398 rfl (tc_TrustDeskModel_toldOn_x (d := d) (x9 := x9) (o0 := o0) (x1 := v375) (x2 := 2) h_o0 R379 K388 I377.start) rfl (Nat.le_of_ble_eq_true rfl) (Nat.le_of_ble_eq_true rfl) (Nat.le_of_ble_eq_true rfl) (hst := rfl) (fun b392r M393 n394 b392 => ?_)
                    obtain ⟨T395, J396, v399, rfl, R400, f401⟩ := b392
                    have I397 := I377.call J396 (tm_sub (by decide)) (Or.inl rfl)
                    have t402 := J396.up h_o0
                    have t403 := J396.up t_a391
                    have z404 := (rv_c I377 J396 (I377.up h_o0) (k := 32) rfl).trans z383
                    have z405 := (rv_c I377 J396 (I377.up h_o0) (k := 49) rfl).trans z384
                    have z406 := (rv_c I377 J396 (I377.up h_o0) (k := 53) rfl).trans z385
                    have z407 := (ra_call I377 J396 (I377.up h_o0) (k := 54) rfl rfl rfl ((rv M0 o0 53).toNat)).trans z386
                    have z408 := (ra_call I377 J396 (I377.up h_o0) (k := 56) rfl rfl rfl ((rv M0 o0 53).toNat)).trans z387
                    have K409 : ∀ i : Nat, i < 880 → 0 ≤ ra M393 o0 8 i := (by have e9 := ((sA_c I377 J396 (I377.up h_o0) (by decide +kernel)) : sA [8] _ _ _) 8 rfl; rw [e9]; exact K388)
                    have K410 : rX M393 o0 := K389.same (sA_c I377 J396 (I377.up h_o0) (by decide +kernel)) (sF_c I377 J396 (I377.up h_o0) (by decide +kernel))
                    clear z383 z384 z385 z386 z387
                    have q411 := J396.keep h_o0 (by decide) (K378 _ 13 0 _ (K359 _ 13 0 _ (K344 _ 13 0 _ (K328 _ 13 0 _ q5))))
                    have q412 := J396.keep h_o0 (by decide) (K378 _ 13 32 _ (K359 _ 13 32 _ (K344 _ 13 32 _ (K328 _ 13 32 _ q17))))
                    have q413 := J396.keep h_o0 (by decide) (K378 _ 13 53 _ (K359 _ 13 53 _ (K344 _ 13 53 _ (K328 _ 13 53 _ q22))))
                    have q414 := J396.keep h_o0 (by decide) (K378 _ 13 54 _ (K359 _ 13 54 _ (K344 _ 13 54 _ (K328 _ 13 54 _ q324))))
                    have t415 := J396.up t_a325
                    have q416 := J396.keep h_o0 (by decide) (K378 _ 13 55 _ (K359 _ 13 55 _ (K344 _ 13 55 _ q340)))
                    have t417 := J396.up t_a341
                    have q418 := J396.keep h_o0 (by decide) (K378 _ 13 56 _ (K359 _ 13 56 _ q355))
                    have t419 := J396.up t_a356
                    have q420 := J396.keep h_o0 (by decide) (K378 _ 13 57 _ q372)
                    have t421 := J396.up t_a373
                    have q422 := J396.keep h_o0 (by decide) (K378 _ 13 1 _ q374)
                    have q423 := J396.keep h_o0 (by decide) q390
                    refine mv_iadd d_TrustDeskModel_propose_172 ?_
                    refine tr_iastR (k := 58) I397 R400 (I397.up h_o0) q423 t403 (by decide) (by decide) (fun lo hi h => by cases h) (Or.inl (by decide)) d_TrustDeskModel_propose_173 (vp_in_iff.mpr (by have := R400.1 32 _ _ rfl; have := R400.1 49 _ _ rfl; have := R400.1 53 _ _ rfl; omega)) (fun M424 I425 K426 R427 E428 A429 V430 => ?_)
                    have z431 := (V430 32).trans z404
                    have z432 := (V430 49).trans z405
                    have z433 := (V430 53).trans z406
                    have z434 := (A429 54 (by decide) rfl ((rv M0 o0 53).toNat)).trans z407
                    have z435 := (A429 56 (by decide) rfl ((rv M0 o0 53).toNat)).trans z408
                    have K436 : ∀ i : Nat, i < 880 → 0 ≤ ra M424 o0 8 i := (by have e9 := ((sA_a A429 (by decide +kernel)) : sA [8] _ _ _) 8 rfl; rw [e9]; exact K409)
                    have K437 : rX M424 o0 := K410.same (sA_a A429 (by decide +kernel)) (sF_a V430)
                    clear z404 z405 z406 z407 z408
                    refine mv_aload_n d_TrustDeskModel_propose_174 rfl rfl ?_
                    obtain ⟨a439, q438, t_a439⟩ := tm_atR I425 t402 (k := 59) rfl
                    refine tr_getK q438 d_TrustDeskModel_propose_175 f_TrustDeskModel_137_13 ?_
                    refine mv_aload_n d_TrustDeskModel_propose_178 rfl rfl ?_
                    refine tr_getK (k := 53) (K426 _ 13 53 _ q413) d_TrustDeskModel_propose_179 f_TrustDeskModel_501_13 ?_
                    refine mv_iconst (v := 0) d_TrustDeskModel_propose_182 (by decide) ?_
                    refine tr_iastR (k := 59) I425 R427 (I425.up h_o0) q438 t_a439 (by decide) (by decide) (fun lo hi h => by cases h) (Or.inl (by decide)) d_TrustDeskModel_propose_183 (vp_in_iff.mpr (by have := R427.1 32 _ _ rfl; have := R427.1 49 _ _ rfl; have := R427.1 53 _ _ rfl; omega)) (fun M440 I441 K442 R443 E444 A445 V446 => ?_)
                    have z447 := (V446 32).trans z431
                    have z448 := (V446 49).trans z432
                    have z449 := (V446 53).trans z433
                    have z450 := (A445 54 (by decide) rfl ((rv M0 o0 53).toNat)).trans z434
                    have z451 := (A445 56 (by decide) rfl ((rv M0 o0 53).toNat)).trans z435
                    have K452 : ∀ i : Nat, i < 880 → 0 ≤ ra M440 o0 8 i := (by have e9 := ((sA_a A445 (by decide +kernel)) : sA [8] _ _ _) 8 rfl; rw [e9]; exact K436)
                    have K453 : rX M440 o0 := K437.same (sA_a A445 (by decide +kernel)) (sF_a V446)
                    clear z431 z432 z433 z434 z435
                    refine mv_aload_n d_TrustDeskModel_propose_184 rfl rfl ?_
                    refine mv_dup d_TrustDeskModel_propose_185 rfl ?_
                    refine tr_getK (k := 53) (K442 _ 13 53 _ (K426 _ 13 53 _ q413)) d_TrustDeskModel_propose_186 f_TrustDeskModel_501_13 ?_
                    refine mv_iconst (v := 1) d_TrustDeskModel_propose_189 (by decide) ?_
                    refine mv_iadd d_TrustDeskModel_propose_190 ?_
                    have b454 : (v23 + 1 : Int32).toInt = (v23.toInt + 1) := mz_add2 rfl (by decide) (by have := R443.1 32 _ _ rfl; have := R443.1 49 _ _ rfl; have := R443.1 53 _ _ rfl; omega) (by have := R443.1 32 _ _ rfl; have := R443.1 49 _ _ rfl; have := R443.1 53 _ _ rfl; omega)
                    refine tr_putR (k := 53) I441 R443 t402 rfl ⟨_, rfl⟩ (fun _ h => by cases h) rfl (fun lo hi h => by cases h; have := R443.1 32 _ _ rfl; have := R443.1 49 _ _ rfl; have := R443.1 53 _ _ rfl; exact ⟨by show (0 : Int) ≤ (v23 + 1).toInt; omega, by show (v23 + 1).toInt ≤ (40 : Int); omega⟩) (Or.inl (by decide)) d_TrustDeskModel_propose_191 p_TrustDeskModel_501_13 rfl rfl (fun M455 I456 q457 K458 R459 A460 V461 => ?_)
                    have z462 := (V461 32 (by decide)).trans z447
                    have z463 := (V461 49 (by decide)).trans z448
                    have z464 := (A460 54 (by decide) ((rv M0 o0 53).toNat)).trans z450
                    have z465 := (A460 56 (by decide) ((rv M0 o0 53).toNat)).trans z451
                    have z466 : rv M455 o0 53 = (v23 + 1).toInt := tm_rv q457
                    have K467 : ∀ i : Nat, i < 880 → 0 ≤ ra M455 o0 8 i := (by have e9 := ((sA_f A460 (by decide)) : sA [8] _ _ _) 8 rfl; rw [e9]; exact K452)
                    have K468 : rX M455 o0 := K453.inc (n := (rv M0 o0 53).toNat) A460 V461 (by omega) (by have := R443.1 32 _ _ rfl; have := R443.1 49 _ _ rfl; have := R443.1 53 _ _ rfl; omega) (by have := R443.1 32 _ _ rfl; have := R443.1 49 _ _ rfl; have := R443.1 53 _ _ rfl; omega) (fun _ => by omega) (fun _ => by omega) (fun _ => by omega)
                    clear z447 z448 z450 z451
                    refine mv_aload_n d_TrustDeskModel_propose_194 rfl rfl ?_
                    refine tr_getK (k := 53) q457 d_TrustDeskModel_propose_195 f_TrustDeskModel_501_13 ?_
                    refine mv_iconst (v := 1) d_TrustDeskModel_propose_198 (by decide) ?_
                    refine mv_isubv (v := v23) d_TrustDeskModel_propose_199 (Int32.add_sub_cancel _ _) ?_
                    exact mv_iret d_TrustDeskModel_propose_200 rfl (by first | rfl | decide) ⟨_, I456, _, rfl, R459, K468, (by have := R459.1 32 _ _ rfl; have := R459.1 49 _ _ rfl; have := R459.1 53 _ _ rfl; omega)⟩
            · refine mv_iload_n d_TrustDeskModel_propose_40 rfl rfl ?_
              have := mz_hi x3
              refine mv_if_ltZ (tgt := 56) (a := x3.toInt) d_TrustDeskModel_propose_41 (by decide) rfl (fun b469 => ?_) (fun b469 => ?_)
              · refine mv_iconst (v := 0) d_TrustDeskModel_propose_56 (by decide) ?_
                refine mv_goto (tgt := 99) d_TrustDeskModel_propose_57 (by decide) ?_
                refine mv_istore (lv' := [(4, .int 0), (0, .ref o0), (1, .int x1), (2, .int x2), (3, .int x3)]) d_TrustDeskModel_propose_99 (by decide) rfl ?_
                refine mv_iload d_TrustDeskModel_propose_101 rfl ?_
                refine mv_if_ne_f (tgt := 108) d_TrustDeskModel_propose_103 (by decide) (by decide) ?_
                refine mv_iconst (v := (-1)) d_TrustDeskModel_propose_106 (by decide) ?_
                exact mv_iret d_TrustDeskModel_propose_107 rfl (by first | rfl | decide) ⟨_, I4, _, rfl, R7, K14, (by have e9 : ((-1) : Int32).toInt = (-1) := (by decide); have := R7.1 32 _ _ rfl; have := R7.1 49 _ _ rfl; have := R7.1 53 _ _ rfl; omega)⟩
              · refine mv_iload_n d_TrustDeskModel_propose_44 rfl rfl ?_
                refine mv_aload_n d_TrustDeskModel_propose_45 rfl rfl ?_
                obtain ⟨v471, q470⟩ := tm_atI I4 h_o0 (k := 49) rfl
                refine tr_getK q470 d_TrustDeskModel_propose_46 f_TrustDeskModel_435_13 ?_
                have := R7.f (k := 49) q470 rfl
                have := (tm_rv q470).symm.trans z11
                have := tm_rv q470
                have := mz_hi x3
                have := mz_hi v471
                refine mv_icmp_geZ (tgt := 56) (a := x3.toInt) (b := v471.toInt) d_TrustDeskModel_propose_49 (by decide) rfl rfl (fun b472 => ?_) (fun b472 => ?_)
                · refine mv_iconst (v := 0) d_TrustDeskModel_propose_56 (by decide) ?_
                  refine mv_goto (tgt := 99) d_TrustDeskModel_propose_57 (by decide) ?_
                  refine mv_istore (lv' := [(4, .int 0), (0, .ref o0), (1, .int x1), (2, .int x2), (3, .int x3)]) d_TrustDeskModel_propose_99 (by decide) rfl ?_
                  refine mv_iload d_TrustDeskModel_propose_101 rfl ?_
                  refine mv_if_ne_f (tgt := 108) d_TrustDeskModel_propose_103 (by decide) (by decide) ?_
                  refine mv_iconst (v := (-1)) d_TrustDeskModel_propose_106 (by decide) ?_
                  exact mv_iret d_TrustDeskModel_propose_107 rfl (by first | rfl | decide) ⟨_, I4, _, rfl, R7, K14, (by have e9 : ((-1) : Int32).toInt = (-1) := (by decide); have := R7.1 32 _ _ rfl; have := R7.1 49 _ _ rfl; have := R7.1 53 _ _ rfl; omega)⟩
                · refine mv_iconst (v := 1) d_TrustDeskModel_propose_52 (by decide) ?_
                  refine mv_goto (tgt := 99) d_TrustDeskModel_propose_53 (by decide) ?_
                  refine mv_istore (lv' := [(4, .int 1), (0, .ref o0), (1, .int x1), (2, .int x2), (3, .int x3)]) d_TrustDeskModel_propose_99 (by decide) rfl ?_
                  refine mv_iload d_TrustDeskModel_propose_101 rfl ?_
                  refine mv_if_ne_t (tgt := 108) d_TrustDeskModel_propose_103 (by decide) (by decide) ?_
                  refine mv_aload_n d_TrustDeskModel_propose_108 rfl rfl ?_
                  obtain ⟨a474, q473, t_a474⟩ := tm_atR I4 h_o0 (k := 54) rfl
                  refine tr_getK q473 d_TrustDeskModel_propose_109 f_TrustDeskModel_122_13 ?_
                  refine mv_aload_n d_TrustDeskModel_propose_112 rfl rfl ?_
                  refine tr_getK (k := 53) q22 d_TrustDeskModel_propose_113 f_TrustDeskModel_501_13 ?_
                  refine mv_iload_n d_TrustDeskModel_propose_116 rfl rfl ?_
                  refine tr_iastR (k := 54) I4 R7 (I4.up h_o0) q473 t_a474 (by decide) (by decide) (fun lo hi h => by cases h; have := R7.1 32 _ _ rfl; have := R7.1 49 _ _ rfl; have := R7.1 53 _ _ rfl; exact ⟨by show (0 : Int) ≤ x1.toInt; omega, by show x1.toInt ≤ (3 : Int); omega⟩) (Or.inl (by decide)) d_TrustDeskModel_propose_117 (vp_in_iff.mpr (by have := R7.1 32 _ _ rfl; have := R7.1 49 _ _ rfl; have := R7.1 53 _ _ rfl; omega)) (fun M475 I476 K477 R478 E479 A480 V481 => ?_)
                  have z482 := (V481 32).trans z10
                  have z483 := (V481 49).trans z11
                  have z484 := (V481 53).trans z12
                  have h485 : (rv M0 o0 53).toNat = v23.toNatClampNeg := by have := mz_nat9 (i := v23) (by have := R7.1 32 _ _ rfl; have := R7.1 49 _ _ rfl; have := R7.1 53 _ _ rfl; omega); have := R7.1 32 _ _ rfl; have := R7.1 49 _ _ rfl; have := R7.1 53 _ _ rfl; omega
                  have z486 : ra M475 o0 54 ((rv M0 o0 53).toNat) = x1.toInt := (E479 _).trans (if_pos h485)
                  have K487 : ∀ i : Nat, i < 880 → 0 ≤ ra M475 o0 8 i := (by have e9 := ((sA_a A480 (by decide +kernel)) : sA [8] _ _ _) 8 rfl; rw [e9]; exact K13)
                  have K488 : rX M475 o0 := K14.out A480 E479 V481 (Or.inl rfl) (by have := mz_nat9 (i := v23) (by have := R7.1 32 _ _ rfl; have := R7.1 49 _ _ rfl; have := R7.1 53 _ _ rfl; omega); have := R7.1 32 _ _ rfl; have := R7.1 49 _ _ rfl; have := R7.1 53 _ _ rfl; omega)
                  clear z10 z11 z12
                  refine mv_aload_n d_TrustDeskModel_propose_118 rfl rfl ?_
                  obtain ⟨a490, q489, t_a490⟩ := tm_atR I476 h_o0 (k := 55) rfl
                  refine tr_getK q489 d_TrustDeskModel_propose_119 f_TrustDeskModel_125_13 ?_
                  refine mv_aload_n d_TrustDeskModel_propose_122 rfl rfl ?_
                  refine tr_getK (k := 53) (K477 _ 13 53 _ q22) d_TrustDeskModel_propose_123 f_TrustDeskModel_501_13 ?_
                  refine mv_iload_n d_TrustDeskModel_propose_126 rfl rfl ?_
                  refine tr_iastR (k := 55) I476 R478 (I476.up h_o0) q489 t_a490 (by decide) (by decide) (fun lo hi h => by cases h; have := R478.1 32 _ _ rfl; have := R478.1 49 _ _ rfl; have := R478.1 53 _ _ rfl; exact ⟨by show (0 : Int) ≤ x2.toInt; omega, by show x2.toInt ≤ (11 : Int); omega⟩) (Or.inl (by decide)) d_TrustDeskModel_propose_127 (vp_in_iff.mpr (by have := R478.1 32 _ _ rfl; have := R478.1 49 _ _ rfl; have := R478.1 53 _ _ rfl; omega)) (fun M491 I492 K493 R494 E495 A496 V497 => ?_)
                  have z498 := (V497 32).trans z482
                  have z499 := (V497 49).trans z483
                  have z500 := (V497 53).trans z484
                  have z501 := (A496 54 (by decide) rfl ((rv M0 o0 53).toNat)).trans z486
                  have K502 : ∀ i : Nat, i < 880 → 0 ≤ ra M491 o0 8 i := (by have e9 := ((sA_a A496 (by decide +kernel)) : sA [8] _ _ _) 8 rfl; rw [e9]; exact K487)
                  have K503 : rX M491 o0 := K488.same (sA_a A496 (by decide +kernel)) (sF_a V497)
                  clear z482 z483 z484 z486
                  refine mv_aload_n d_TrustDeskModel_propose_128 rfl rfl ?_
                  obtain ⟨a505, q504, t_a505⟩ := tm_atR I492 h_o0 (k := 56) rfl
                  refine tr_getK q504 d_TrustDeskModel_propose_129 f_TrustDeskModel_128_13 ?_
                  refine mv_aload_n d_TrustDeskModel_propose_132 rfl rfl ?_
                  refine tr_getK (k := 53) (K493 _ 13 53 _ (K477 _ 13 53 _ q22)) d_TrustDeskModel_propose_133 f_TrustDeskModel_501_13 ?_
                  refine mv_iload_n d_TrustDeskModel_propose_136 rfl rfl ?_
                  refine tr_iastR (k := 56) I492 R494 (I492.up h_o0) q504 t_a505 (by decide) (by decide) (fun lo hi h => by cases h) (Or.inl (by decide)) d_TrustDeskModel_propose_137 (vp_in_iff.mpr (by have := R494.1 32 _ _ rfl; have := R494.1 49 _ _ rfl; have := R494.1 53 _ _ rfl; omega)) (fun M506 I507 K508 R509 E510 A511 V512 => ?_)
                  have z513 := (V512 32).trans z498
                  have z514 := (V512 49).trans z499
                  have z515 := (V512 53).trans z500
                  have z516 := (A511 54 (by decide) rfl ((rv M0 o0 53).toNat)).trans z501
                  have h517 : (rv M0 o0 53).toNat = v23.toNatClampNeg := by have := mz_nat9 (i := v23) (by have := R494.1 32 _ _ rfl; have := R494.1 49 _ _ rfl; have := R494.1 53 _ _ rfl; omega); have := R494.1 32 _ _ rfl; have := R494.1 49 _ _ rfl; have := R494.1 53 _ _ rfl; omega
                  have z518 : ra M506 o0 56 ((rv M0 o0 53).toNat) = x3.toInt := (E510 _).trans (if_pos h517)
                  have K519 : ∀ i : Nat, i < 880 → 0 ≤ ra M506 o0 8 i := (by have e9 := ((sA_a A511 (by decide +kernel)) : sA [8] _ _ _) 8 rfl; rw [e9]; exact K502)
                  have K520 : rX M506 o0 := K503.out A511 E510 V512 (Or.inr rfl) (by have := mz_nat9 (i := v23) (by have := R494.1 32 _ _ rfl; have := R494.1 49 _ _ rfl; have := R494.1 53 _ _ rfl; omega); have := R494.1 32 _ _ rfl; have := R494.1 49 _ _ rfl; have := R494.1 53 _ _ rfl; omega)
                  clear z498 z499 z500 z501
                  refine mv_aload_n d_TrustDeskModel_propose_138 rfl rfl ?_
                  obtain ⟨a522, q521, t_a522⟩ := tm_atR I507 h_o0 (k := 57) rfl
                  refine tr_getK q521 d_TrustDeskModel_propose_139 f_TrustDeskModel_131_13 ?_
                  refine mv_aload_n d_TrustDeskModel_propose_142 rfl rfl ?_
                  refine tr_getK (k := 53) (K508 _ 13 53 _ (K493 _ 13 53 _ (K477 _ 13 53 _ q22))) d_TrustDeskModel_propose_143 f_TrustDeskModel_501_13 ?_
                  refine mv_aload_n d_TrustDeskModel_propose_146 rfl rfl ?_
                  obtain ⟨v524, q523⟩ := tm_atI I507 h_o0 (k := 1) rfl
                  refine tr_getK q523 d_TrustDeskModel_propose_147 f_TrustDeskModel_164_13 ?_
                  have := R509.f (k := 1) q523 rfl
                  refine tr_iastR (k := 57) I507 R509 (I507.up h_o0) q521 t_a522 (by decide) (by decide) (fun lo hi h => by cases h) (Or.inl (by decide)) d_TrustDeskModel_propose_150 (vp_in_iff.mpr (by have := R509.1 32 _ _ rfl; have := R509.1 49 _ _ rfl; have := R509.1 53 _ _ rfl; omega)) (fun M525 I526 K527 R528 E529 A530 V531 => ?_)
                  have z532 := (V531 32).trans z513
                  have z533 := (V531 49).trans z514
                  have z534 := (V531 53).trans z515
                  have z535 := (A530 54 (by decide) rfl ((rv M0 o0 53).toNat)).trans z516
                  have z536 := (A530 56 (by decide) rfl ((rv M0 o0 53).toNat)).trans z518
                  have K537 : ∀ i : Nat, i < 880 → 0 ≤ ra M525 o0 8 i := (by have e9 := ((sA_a A530 (by decide +kernel)) : sA [8] _ _ _) 8 rfl; rw [e9]; exact K519)
                  have K538 : rX M525 o0 := K520.same (sA_a A530 (by decide +kernel)) (sF_a V531)
                  clear z513 z514 z515 z516 z518
                  refine mv_aload_n d_TrustDeskModel_propose_151 rfl rfl ?_
                  obtain ⟨a540, q539, t_a540⟩ := tm_atR I526 h_o0 (k := 58) rfl
                  refine tr_getK q539 d_TrustDeskModel_propose_152 f_TrustDeskModel_134_13 ?_
                  refine mv_aload_n d_TrustDeskModel_propose_155 rfl rfl ?_
                  refine tr_getK (k := 53) (K527 _ 13 53 _ (K508 _ 13 53 _ (K493 _ 13 53 _ (K477 _ 13 53 _ q22)))) d_TrustDeskModel_propose_156 f_TrustDeskModel_501_13 ?_
                  refine mv_aload_n d_TrustDeskModel_propose_159 rfl rfl ?_
                  refine tr_getK (k := 1) (K527 _ 13 1 _ q523) d_TrustDeskModel_propose_160 f_TrustDeskModel_164_13 ?_
                  refine mv_aload_n d_TrustDeskModel_propose_163 rfl rfl ?_
                  refine mv_aload_n d_TrustDeskModel_propose_164 rfl rfl ?_
                  refine tr_getK (k := 1) (K527 _ 13 1 _ q523) d_TrustDeskModel_propose_165 f_TrustDeskModel_164_13 ?_
                  refine mv_iconst (v := 2) d_TrustDeskModel_propose_168 (by decide) ?_
                  obtain ⟨_, b547, -⟩ := I526.1 _ _ h_o0
                  have : (2 : Int32).toInt = 2 := by decide
                  refine mv_callV (kc' := 0) (ks' := 0) (As := [.int v524, .int 2]) (st9 := [.int 2, .int v524, .ref o0, .int v524, .int v23, .ref a540]) d_TrustDeskModel_propose_169 lV_TrustDeskModel_396 b547 rfl (tc_TrustDeskModel_toldOn_x (d := d) (x9 := x9) (o0 := o0) (x1 := v524) (x2 := 2) h_o0 R528 K537 I526.start) rfl (Nat.le_of_ble_eq_true rfl) (Nat.le_of_ble_eq_true rfl) (Nat.le_of_ble_eq_true rfl) (hst := rfl) (fun b541r M542 n543 b541 => ?_)
                  obtain ⟨T544, J545, v548, rfl, R549, f550⟩ := b541
                  have I546 := I526.call J545 (tm_sub (by decide)) (Or.inl rfl)
                  have t551 := J545.up h_o0
                  have t552 := J545.up t_a540
                  have z553 := (rv_c I526 J545 (I526.up h_o0) (k := 32) rfl).trans z532
                  have z554 := (rv_c I526 J545 (I526.up h_o0) (k := 49) rfl).trans z533
                  have z555 := (rv_c I526 J545 (I526.up h_o0) (k := 53) rfl).trans z534
                  have z556 := (ra_call I526 J545 (I526.up h_o0) (k := 54) rfl rfl rfl ((rv M0 o0 53).toNat)).trans z535
                  have z557 := (ra_call I526 J545 (I526.up h_o0) (k := 56) rfl rfl rfl ((rv M0 o0 53).toNat)).trans z536
                  have K558 : ∀ i : Nat, i < 880 → 0 ≤ ra M542 o0 8 i := (by have e9 := ((sA_c I526 J545 (I526.up h_o0) (by decide +kernel)) : sA [8] _ _ _) 8 rfl; rw [e9]; exact K537)
                  have K559 : rX M542 o0 := K538.same (sA_c I526 J545 (I526.up h_o0) (by decide +kernel)) (sF_c I526 J545 (I526.up h_o0) (by decide +kernel))
                  clear z532 z533 z534 z535 z536
                  have q560 := J545.keep h_o0 (by decide) (K527 _ 13 0 _ (K508 _ 13 0 _ (K493 _ 13 0 _ (K477 _ 13 0 _ q5))))
                  have q561 := J545.keep h_o0 (by decide) (K527 _ 13 32 _ (K508 _ 13 32 _ (K493 _ 13 32 _ (K477 _ 13 32 _ q17))))
                  have q562 := J545.keep h_o0 (by decide) (K527 _ 13 53 _ (K508 _ 13 53 _ (K493 _ 13 53 _ (K477 _ 13 53 _ q22))))
                  have q563 := J545.keep h_o0 (by decide) (K527 _ 13 49 _ (K508 _ 13 49 _ (K493 _ 13 49 _ (K477 _ 13 49 _ q470))))
                  have q564 := J545.keep h_o0 (by decide) (K527 _ 13 54 _ (K508 _ 13 54 _ (K493 _ 13 54 _ (K477 _ 13 54 _ q473))))
                  have t565 := J545.up t_a474
                  have q566 := J545.keep h_o0 (by decide) (K527 _ 13 55 _ (K508 _ 13 55 _ (K493 _ 13 55 _ q489)))
                  have t567 := J545.up t_a490
                  have q568 := J545.keep h_o0 (by decide) (K527 _ 13 56 _ (K508 _ 13 56 _ q504))
                  have t569 := J545.up t_a505
                  have q570 := J545.keep h_o0 (by decide) (K527 _ 13 57 _ q521)
                  have t571 := J545.up t_a522
                  have q572 := J545.keep h_o0 (by decide) (K527 _ 13 1 _ q523)
                  have q573 := J545.keep h_o0 (by decide) q539
                  refine mv_iadd d_TrustDeskModel_propose_172 ?_
                  refine tr_iastR (k := 58) I546 R549 (I546.up h_o0) q573 t552 (by decide) (by decide) (fun lo hi h => by cases h) (Or.inl (by decide)) d_TrustDeskModel_propose_173 (vp_in_iff.mpr (by have := R549.1 32 _ _ rfl; have := R549.1 49 _ _ rfl; have := R549.1 53 _ _ rfl; omega)) (fun M574 I575 K576 R577 E578 A579 V580 => ?_)
                  have z581 := (V580 32).trans z553
                  have z582 := (V580 49).trans z554
                  have z583 := (V580 53).trans z555
                  have z584 := (A579 54 (by decide) rfl ((rv M0 o0 53).toNat)).trans z556
                  have z585 := (A579 56 (by decide) rfl ((rv M0 o0 53).toNat)).trans z557
                  have K586 : ∀ i : Nat, i < 880 → 0 ≤ ra M574 o0 8 i := (by have e9 := ((sA_a A579 (by decide +kernel)) : sA [8] _ _ _) 8 rfl; rw [e9]; exact K558)
                  have K587 : rX M574 o0 := K559.same (sA_a A579 (by decide +kernel)) (sF_a V580)
                  clear z553 z554 z555 z556 z557
                  refine mv_aload_n d_TrustDeskModel_propose_174 rfl rfl ?_
                  obtain ⟨a589, q588, t_a589⟩ := tm_atR I575 t551 (k := 59) rfl
                  refine tr_getK q588 d_TrustDeskModel_propose_175 f_TrustDeskModel_137_13 ?_
                  refine mv_aload_n d_TrustDeskModel_propose_178 rfl rfl ?_
                  refine tr_getK (k := 53) (K576 _ 13 53 _ q562) d_TrustDeskModel_propose_179 f_TrustDeskModel_501_13 ?_
                  refine mv_iconst (v := 0) d_TrustDeskModel_propose_182 (by decide) ?_
                  refine tr_iastR (k := 59) I575 R577 (I575.up h_o0) q588 t_a589 (by decide) (by decide) (fun lo hi h => by cases h) (Or.inl (by decide)) d_TrustDeskModel_propose_183 (vp_in_iff.mpr (by have := R577.1 32 _ _ rfl; have := R577.1 49 _ _ rfl; have := R577.1 53 _ _ rfl; omega)) (fun M590 I591 K592 R593 E594 A595 V596 => ?_)
                  have z597 := (V596 32).trans z581
                  have z598 := (V596 49).trans z582
                  have z599 := (V596 53).trans z583
                  have z600 := (A595 54 (by decide) rfl ((rv M0 o0 53).toNat)).trans z584
                  have z601 := (A595 56 (by decide) rfl ((rv M0 o0 53).toNat)).trans z585
                  have K602 : ∀ i : Nat, i < 880 → 0 ≤ ra M590 o0 8 i := (by have e9 := ((sA_a A595 (by decide +kernel)) : sA [8] _ _ _) 8 rfl; rw [e9]; exact K586)
                  have K603 : rX M590 o0 := K587.same (sA_a A595 (by decide +kernel)) (sF_a V596)
                  clear z581 z582 z583 z584 z585
                  refine mv_aload_n d_TrustDeskModel_propose_184 rfl rfl ?_
                  refine mv_dup d_TrustDeskModel_propose_185 rfl ?_
                  refine tr_getK (k := 53) (K592 _ 13 53 _ (K576 _ 13 53 _ q562)) d_TrustDeskModel_propose_186 f_TrustDeskModel_501_13 ?_
                  refine mv_iconst (v := 1) d_TrustDeskModel_propose_189 (by decide) ?_
                  refine mv_iadd d_TrustDeskModel_propose_190 ?_
                  have b604 : (v23 + 1 : Int32).toInt = (v23.toInt + 1) := mz_add2 rfl (by decide) (by have := R593.1 32 _ _ rfl; have := R593.1 49 _ _ rfl; have := R593.1 53 _ _ rfl; omega) (by have := R593.1 32 _ _ rfl; have := R593.1 49 _ _ rfl; have := R593.1 53 _ _ rfl; omega)
                  refine tr_putR (k := 53) I591 R593 t551 rfl ⟨_, rfl⟩ (fun _ h => by cases h) rfl (fun lo hi h => by cases h; have := R593.1 32 _ _ rfl; have := R593.1 49 _ _ rfl; have := R593.1 53 _ _ rfl; exact ⟨by show (0 : Int) ≤ (v23 + 1).toInt; omega, by show (v23 + 1).toInt ≤ (40 : Int); omega⟩) (Or.inl (by decide)) d_TrustDeskModel_propose_191 p_TrustDeskModel_501_13 rfl rfl (fun M605 I606 q607 K608 R609 A610 V611 => ?_)
                  have z612 := (V611 32 (by decide)).trans z597
                  have z613 := (V611 49 (by decide)).trans z598
                  have z614 := (A610 54 (by decide) ((rv M0 o0 53).toNat)).trans z600
                  have z615 := (A610 56 (by decide) ((rv M0 o0 53).toNat)).trans z601
                  have z616 : rv M605 o0 53 = (v23 + 1).toInt := tm_rv q607
                  have K617 : ∀ i : Nat, i < 880 → 0 ≤ ra M605 o0 8 i := (by have e9 := ((sA_f A610 (by decide)) : sA [8] _ _ _) 8 rfl; rw [e9]; exact K602)
                  have K618 : rX M605 o0 := K603.inc (n := (rv M0 o0 53).toNat) A610 V611 (by omega) (by have := R593.1 32 _ _ rfl; have := R593.1 49 _ _ rfl; have := R593.1 53 _ _ rfl; omega) (by have := R593.1 32 _ _ rfl; have := R593.1 49 _ _ rfl; have := R593.1 53 _ _ rfl; omega) (fun _ => by omega) (fun _ => by omega) (fun _ => by omega)
                  clear z597 z598 z600 z601
                  refine mv_aload_n d_TrustDeskModel_propose_194 rfl rfl ?_
                  refine tr_getK (k := 53) q607 d_TrustDeskModel_propose_195 f_TrustDeskModel_501_13 ?_
                  refine mv_iconst (v := 1) d_TrustDeskModel_propose_198 (by decide) ?_
                  refine mv_isubv (v := v23) d_TrustDeskModel_propose_199 (Int32.add_sub_cancel _ _) ?_
                  exact mv_iret d_TrustDeskModel_propose_200 rfl (by first | rfl | decide) ⟨_, I606, _, rfl, R609, K618, (by have := R609.1 32 _ _ rfl; have := R609.1 49 _ _ rfl; have := R609.1 53 _ _ rfl; omega)⟩
          · refine mv_iconst (v := (-1)) d_TrustDeskModel_propose_34 (by decide) ?_
            exact mv_iret d_TrustDeskModel_propose_35 rfl (by first | rfl | decide) ⟨_, I4, _, rfl, R7, K14, (by have e9 : ((-1) : Int32).toInt = (-1) := (by decide); have := R7.1 32 _ _ rfl; have := R7.1 49 _ _ rfl; have := R7.1 53 _ _ rfl; omega)⟩
def w_TrustDeskModel_lay_z : List Nat := [1300, 20066]
set_option maxHeartbeats 100000000 in theorem tc_TrustDeskModel_lay_z {g : mj_G} {l : Launch} {d : Nat} {T0 : tm_H} {M0 : mj_M} {n0 x9 : Nat} {o0 : Nat} {x1 : Int32} {x2 : Int32} (h_o0 : T0 o0 = some (0, 13, 0)) (yR : rI M0 o0) (I0 : tm_I tm_FT (tm_in w_TrustDeskModel_lay_z) x9 T0 M0 n0 T0 M0 n0) : mj_Met g l kY_TrustDeskModel_lay (d + 1) [.ref o0, .int x1, .int x2] M0 n0 0 0 (tm_Q tm_FT (tm_in w_TrustDeskModel_lay_z) x9 T0 M0 n0 (fun r _ M => ∃ v : Int32, r = some (.int v) ∧ 0 ≤ v.toInt ∧ v.toInt ≤ 1 ∧ rI M o0 ∧ ((v.toInt = 0 ∧ ¬ (0 ≤ x1.toInt ∧ x1.toInt < rv M0 o0 32 ∧ 0 ≤ x2.toInt ∧ x2.toInt ≤ 7)) ∨ (v.toInt = 1 ∧ (0 ≤ x1.toInt ∧ x1.toInt < rv M0 o0 32 ∧ 0 ≤ x2.toInt ∧ x2.toInt ≤ 7))))) := by
  refine mj_enter (by decide) (Nat.le_of_ble_eq_true rfl) ?_
  refine mv_aload_n d_TrustDeskModel_lay_0 rfl rfl ?_
  refine mv_iconst (v := 0) d_TrustDeskModel_lay_1 (by decide) ?_
  refine tr_putR (k := 0) I0 yR h_o0 rfl ⟨_, rfl⟩ (fun _ h => by cases h) rfl (fun lo hi h => by cases h) (Or.inl (by decide)) d_TrustDeskModel_lay_2 p_TrustDeskModel_1_13 rfl rfl (fun M1 I2 q3 K4 R5 A6 V7 => ?_)
  have z8 := (V7 32 (by decide))
  refine mv_aload_n d_TrustDeskModel_lay_5 rfl rfl ?_
  refine mv_iload_n d_TrustDeskModel_lay_6 rfl rfl ?_
  obtain ⟨_, b9, -⟩ := I2.1 _ _ h_o0
  refine mv_callV (kc1 := 0) (ks1 := 0) (kc' := 0) (ks' := 0) (As := [.int x1]) (st9 := [.int x1, .ref o0]) d_TrustDeskModel_lay_7 lV_TrustDeskModel_418 b9 rfl (mj_enter (by decide) (Nat.le_of_ble_eq_true rfl) ?_) rfl (Nat.le_of_ble_eq_true rfl) (Nat.le_of_ble_eq_true rfl) (Nat.le_of_ble_eq_true rfl) (hst := rfl) (fun _ _ _ h => h)
  refine mv_iload_n d_TrustDeskModel_isFund_0 rfl rfl ?_
  have := mz_hi x1
  refine mv_if_ltZ (tgt := 16) (a := x1.toInt) d_TrustDeskModel_isFund_1 (by decide) rfl (fun b10 => ?_) (fun b10 => ?_)
  · refine mv_iconst (v := 0) d_TrustDeskModel_isFund_16 (by decide) ?_
    refine mv_iret d_TrustDeskModel_isFund_17 rfl (by decide) ?_
    refine mv_if_eq_t (tgt := 25) d_TrustDeskModel_lay_10 (by decide) (by decide) ?_
    refine mv_iconst (v := 0) d_TrustDeskModel_lay_25 (by decide) ?_
    exact mv_iret d_TrustDeskModel_lay_26 rfl (by decide) ⟨_, I2, _, rfl, by decide, by decide, R5, (by have e9 : (0 : Int32).toInt = 0 := (by decide); have := R5.1 32 _ _ rfl; omega)⟩
  · refine mv_iload_n d_TrustDeskModel_isFund_4 rfl rfl ?_
    refine mv_aload_n d_TrustDeskModel_isFund_5 rfl rfl ?_
    obtain ⟨v12, q11⟩ := tm_atI I2 h_o0 (k := 32) rfl
    refine tr_getK q11 d_TrustDeskModel_isFund_6 f_TrustDeskModel_415_13 ?_
    have := R5.f (k := 32) q11 rfl
    have := (tm_rv q11).symm.trans z8
    have := tm_rv q11
    have := mz_hi x1
    have := mz_hi v12
    refine mv_icmp_geZ (tgt := 16) (a := x1.toInt) (b := v12.toInt) d_TrustDeskModel_isFund_9 (by decide) rfl rfl (fun b13 => ?_) (fun b13 => ?_)
    · refine mv_iconst (v := 0) d_TrustDeskModel_isFund_16 (by decide) ?_
      refine mv_iret d_TrustDeskModel_isFund_17 rfl (by decide) ?_
      refine mv_if_eq_t (tgt := 25) d_TrustDeskModel_lay_10 (by decide) (by decide) ?_
      refine mv_iconst (v := 0) d_TrustDeskModel_lay_25 (by decide) ?_
      exact mv_iret d_TrustDeskModel_lay_26 rfl (by decide) ⟨_, I2, _, rfl, by decide, by decide, R5, (by have e9 : (0 : Int32).toInt = 0 := (by decide); have := R5.1 32 _ _ rfl; omega)⟩
    · refine mv_iconst (v := 1) d_TrustDeskModel_isFund_12 (by decide) ?_
      refine mv_goto (tgt := 17) d_TrustDeskModel_isFund_13 (by decide) ?_
      refine mv_iret d_TrustDeskModel_isFund_17 rfl (by decide) ?_
      refine mv_if_eq_f (tgt := 25) d_TrustDeskModel_lay_10 (by decide) (by decide) ?_
      refine mv_iload_n d_TrustDeskModel_lay_13 rfl rfl ?_
      refine mv_i2l (v := x2.toInt64) d_TrustDeskModel_lay_14 rfl ?_
      refine mv_lconst (v := 0) d_TrustDeskModel_lay_15 (by decide) ?_
      refine mv_ldc2 d_TrustDeskModel_lay_16 k_TrustDeskModel_167 ?_
      refine mv_callS (kc1 := 0) (ks1 := 0) (kc' := 0) (ks' := 0) (As := [.long x2.toInt64, .long 0, .long 7]) (st9 := [.long 7, .long 0, .long x2.toInt64]) d_TrustDeskModel_lay_19 lS_TrustDeskModel_169 (mj_enter (by decide) (Nat.le_of_ble_eq_true rfl) ?_) rfl (Nat.le_of_ble_eq_true rfl) (Nat.le_of_ble_eq_true rfl) (Nat.le_of_ble_eq_true rfl) (hst := rfl) (fun _ _ _ h => h)
      refine mv_lload_n d_TrustDeskModel_within_0 rfl rfl ?_
      refine mv_lload_n d_TrustDeskModel_within_1 rfl rfl ?_
      refine mv_lltZ (tgt := 17) (a := x2.toInt) (b := 0) d_TrustDeskModel_within_2 d_TrustDeskModel_within_3 (by decide) (mz_wide _) (by decide) (fun b14 => ?_) (fun b14 => ?_)
      · refine mv_iconst (v := 0) d_TrustDeskModel_within_17 (by decide) ?_
        refine mv_iret d_TrustDeskModel_within_18 rfl (by decide) ?_
        refine mv_if_ne_f (tgt := 27) d_TrustDeskModel_lay_22 (by decide) (by decide) ?_
        refine mv_iconst (v := 0) d_TrustDeskModel_lay_25 (by decide) ?_
        exact mv_iret d_TrustDeskModel_lay_26 rfl (by decide) ⟨_, I2, _, rfl, by decide, by decide, R5, (by have e9 : (0 : Int32).toInt = 0 := (by decide); have := R5.1 32 _ _ rfl; omega)⟩
      · refine mv_lload_n d_TrustDeskModel_within_6 rfl rfl ?_
        refine mv_lload d_TrustDeskModel_within_7 rfl ?_
        refine mv_lgtZ (tgt := 17) (a := x2.toInt) (b := 7) d_TrustDeskModel_within_9 d_TrustDeskModel_within_10 (by decide) (mz_wide _) (by decide) (fun b15 => ?_) (fun b15 => ?_)
        · refine mv_iconst (v := 0) d_TrustDeskModel_within_17 (by decide) ?_
          refine mv_iret d_TrustDeskModel_within_18 rfl (by decide) ?_
          refine mv_if_ne_f (tgt := 27) d_TrustDeskModel_lay_22 (by decide) (by decide) ?_
          refine mv_iconst (v := 0) d_TrustDeskModel_lay_25 (by decide) ?_
          exact mv_iret d_TrustDeskModel_lay_26 rfl (by decide) ⟨_, I2, _, rfl, by decide, by decide, R5, (by have e9 : (0 : Int32).toInt = 0 := (by decide); have := R5.1 32 _ _ rfl; omega)⟩
        · refine mv_iconst (v := 1) d_TrustDeskModel_within_13 (by decide) ?_
          refine mv_goto (tgt := 18) d_TrustDeskModel_within_14 (by decide) ?_
          refine mv_iret d_TrustDeskModel_within_18 rfl (by decide) ?_
          refine mv_if_ne_t (tgt := 27) d_TrustDeskModel_lay_22 (by decide) (by decide) ?_
          refine mv_aload_n d_TrustDeskModel_lay_27 rfl rfl ?_
          obtain ⟨a17, q16, t_a17⟩ := tm_atR I2 h_o0 (k := 66) rfl
          refine tr_getK q16 d_TrustDeskModel_lay_28 f_TrustDeskModel_158_13 ?_
          refine mv_iload_n d_TrustDeskModel_lay_31 rfl rfl ?_
          refine mv_iload_n d_TrustDeskModel_lay_32 rfl rfl ?_
          refine tr_iastR (k := 66) I2 R5 (I2.up h_o0) q16 t_a17 (by decide) (by decide) (fun lo hi h => by cases h) (Or.inl (by decide)) d_TrustDeskModel_lay_33 (vp_in_iff.mpr (by have := R5.1 32 _ _ rfl; omega)) (fun M18 I19 K20 R21 E22 A23 V24 => ?_)
          have z25 := (V24 32).trans z8
          clear z8
          refine mv_iconst (v := 1) d_TrustDeskModel_lay_34 (by decide) ?_
          exact mv_iret d_TrustDeskModel_lay_35 rfl (by decide) ⟨_, I19, _, rfl, by decide, by decide, R21, (by have e9 : (1 : Int32).toInt = 1 := (by decide); have := R21.1 32 _ _ rfl; omega)⟩
