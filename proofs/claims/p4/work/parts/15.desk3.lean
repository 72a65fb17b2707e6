abbrev kY_TrustDesk_feed : mj_Y := (⟨"TrustDesk", "feed", "(IIIII)I"⟩, prog_1_method_4_code, 6, (Option.some Jvm.ClassFile.FieldType.int))
theorem d_TrustDesk_feed_0 : decode kY_TrustDesk_feed.2.1 0 = .ok (.aload_n 0, 1) := by decide +kernel
theorem d_TrustDesk_feed_1 : decode kY_TrustDesk_feed.2.1 1 = .ok (.getfield 19, 3) := by decide +kernel
theorem d_TrustDesk_feed_4 : decode kY_TrustDesk_feed.2.1 4 = .ok (.getfield 88, 3) := by decide +kernel
theorem d_TrustDesk_feed_7 : decode kY_TrustDesk_feed.2.1 7 = .ok (.sipush 380, 3) := by decide +kernel
theorem d_TrustDesk_feed_10 : decode kY_TrustDesk_feed.2.1 10 = .ok (.if_icmp .le 5, 3) := by decide +kernel
theorem d_TrustDesk_feed_15 : decode kY_TrustDesk_feed.2.1 15 = .ok (.aload_n 0, 1) := by decide +kernel
theorem d_TrustDesk_feed_16 : decode kY_TrustDesk_feed.2.1 16 = .ok (.getfield 19, 3) := by decide +kernel
theorem d_TrustDesk_feed_19 : decode kY_TrustDesk_feed.2.1 19 = .ok (.iload_n 1, 1) := by decide +kernel
theorem d_TrustDesk_feed_20 : decode kY_TrustDesk_feed.2.1 20 = .ok (.invokevirtual 91, 3) := by decide +kernel
abbrev kY_Reader_takeFour : mj_Y := (⟨"TrustDesk$Reader", "takeFour", "(I)V"⟩, prog_10_method_2_code, 3, (Option.none : Option Jvm.ClassFile.FieldType))
theorem d_Reader_takeFour_0 : decode kY_Reader_takeFour.2.1 0 = .ok (.bipush 24, 2) := by decide +kernel
theorem d_Reader_takeFour_2 : decode kY_Reader_takeFour.2.1 2 = .ok (.istore_n 2, 1) := by decide +kernel
theorem d_Reader_takeFour_3 : decode kY_Reader_takeFour.2.1 3 = .ok (.iload_n 2, 1) := by decide +kernel
theorem d_Reader_takeFour_4 : decode kY_Reader_takeFour.2.1 4 = .ok (.ifCond .lt 52, 3) := by decide +kernel
theorem d_Reader_takeFour_56 : decode kY_Reader_takeFour.2.1 56 = .ok (.return_, 1) := by decide +kernel
theorem d_Reader_takeFour_7 : decode kY_Reader_takeFour.2.1 7 = .ok (.aload_n 0, 1) := by decide +kernel
theorem d_Reader_takeFour_8 : decode kY_Reader_takeFour.2.1 8 = .ok (.getfield 34, 3) := by decide +kernel
theorem d_Reader_takeFour_11 : decode kY_Reader_takeFour.2.1 11 = .ok (.ifCond .lt 39, 3) := by decide +kernel
theorem d_Reader_takeFour_50 : decode kY_Reader_takeFour.2.1 50 = .ok (.iinc 2 (-8), 3) := by decide +kernel
theorem d_Reader_takeFour_53 : decode kY_Reader_takeFour.2.1 53 = .ok (.goto (-50), 3) := by decide +kernel
theorem d_Reader_takeFour_14 : decode kY_Reader_takeFour.2.1 14 = .ok (.aload_n 0, 1) := by decide +kernel
theorem d_Reader_takeFour_15 : decode kY_Reader_takeFour.2.1 15 = .ok (.getfield 34, 3) := by decide +kernel
theorem d_Reader_takeFour_18 : decode kY_Reader_takeFour.2.1 18 = .ok (.sipush 400, 3) := by decide +kernel
theorem d_Reader_takeFour_21 : decode kY_Reader_takeFour.2.1 21 = .ok (.if_icmp .ge 29, 3) := by decide +kernel
theorem d_Reader_takeFour_24 : decode kY_Reader_takeFour.2.1 24 = .ok (.aload_n 0, 1) := by decide +kernel
theorem d_Reader_takeFour_25 : decode kY_Reader_takeFour.2.1 25 = .ok (.getfield 15, 3) := by decide +kernel
theorem d_Reader_takeFour_28 : decode kY_Reader_takeFour.2.1 28 = .ok (.aload_n 0, 1) := by decide +kernel
theorem d_Reader_takeFour_29 : decode kY_Reader_takeFour.2.1 29 = .ok (.getfield 34, 3) := by decide +kernel
theorem d_Reader_takeFour_32 : decode kY_Reader_takeFour.2.1 32 = .ok (.iload_n 1, 1) := by decide +kernel
theorem d_Reader_takeFour_33 : decode kY_Reader_takeFour.2.1 33 = .ok (.iload_n 2, 1) := by decide +kernel
theorem d_Reader_takeFour_34 : decode kY_Reader_takeFour.2.1 34 = .ok (.iushr, 1) := by decide +kernel
theorem d_Reader_takeFour_35 : decode kY_Reader_takeFour.2.1 35 = .ok (.sipush 255, 3) := by decide +kernel
theorem d_Reader_takeFour_38 : decode kY_Reader_takeFour.2.1 38 = .ok (.iand, 1) := by decide +kernel
theorem d_Reader_takeFour_39 : decode kY_Reader_takeFour.2.1 39 = .ok (.iastore, 1) := by decide +kernel
theorem d_Reader_takeFour_40 : decode kY_Reader_takeFour.2.1 40 = .ok (.aload_n 0, 1) := by decide +kernel
theorem d_Reader_takeFour_41 : decode kY_Reader_takeFour.2.1 41 = .ok (.dup, 1) := by decide +kernel
theorem d_Reader_takeFour_42 : decode kY_Reader_takeFour.2.1 42 = .ok (.getfield 34, 3) := by decide +kernel
theorem d_Reader_takeFour_45 : decode kY_Reader_takeFour.2.1 45 = .ok (.iconst 1, 1) := by decide +kernel
theorem d_Reader_takeFour_46 : decode kY_Reader_takeFour.2.1 46 = .ok (.iadd, 1) := by decide +kernel
theorem d_Reader_takeFour_47 : decode kY_Reader_takeFour.2.1 47 = .ok (.putfield 34, 3) := by decide +kernel
theorem p_Reader_34_9 : mj_fp "TrustDesk$Reader" 34 9 0 (kt_Reader 0) false := ⟨kR_Reader, kF_Reader, 19, "TrustDesk$Reader", kt_Reader, rfl, kg_9, by decide, (mj_in1 (List.mem_of_getElem? (i := 69) (by decide +kernel)) rfl), Or.inl rfl, kto_Reader, kn_Reader, rfl, rfl, fun h => by cases h⟩
def w_Reader_takeFour : List Nat := [900, 953]
theorem tc_Reader_takeFour {g : mj_G} {l : Launch} {d : Nat} {T0 : tm_H} {M0 : mj_M} {n0 x9 : Nat} {o0 : Nat} {x1 : Int32} (h_o0 : T0 o0 = some (0, 9, 0)) (I0 : tm_I tm_FT (tm_in w_Reader_takeFour) x9 T0 M0 n0 T0 M0 n0) : mj_Met g l kY_Reader_takeFour d [.ref o0, .int x1] M0 n0 0 0 (tm_Q tm_FT (tm_in w_Reader_takeFour) x9 T0 M0 n0 (fun r _ _ => r = none)) := by
  refine mj_enter (by decide) (Nat.le_of_ble_eq_true rfl) ?_
  refine mv_bipush (v := 24) d_Reader_takeFour_0 (by decide) ?_
  refine mv_istore_n (lv' := [(2, .int 24), (0, .ref o0), (1, .int x1)]) d_Reader_takeFour_2 rfl (by decide) rfl ?_
  have L3_1 : ∀ (k : Nat) (i2_1 : Int32) (T_1 : tm_H) (M_1 : mj_M) (n_1 : Nat), tm_I tm_FT (tm_in w_Reader_takeFour) x9 T0 M0 n0 T_1 M_1 n_1 → T_1 o0 = some (0, 9, 0) → -8 ≤ i2_1.toInt → i2_1.toInt + 8 < (k : Int) → mj_V g l kY_Reader_takeFour d 3 [(2, .int i2_1), (0, .ref o0), (1, .int x1)] [] M_1 n_1 0 0 (tm_Q tm_FT (tm_in w_Reader_takeFour) x9 T0 M0 n0 (fun r _ _ => r = none)) := by
    intro k1
    induction k1 with
    | zero =>
      intro i2_1 T_1 M_1 n_1 I_1 h_q0_1 iv0_1 hk1
      have := mz_hi i2_1
      exfalso; omega
    | succ k1 ih1 =>
      intro i2_1 T_1 M_1 n_1 I_1 h_q0_1 iv0_1 hk1
      refine mv_iload_n d_Reader_takeFour_3 rfl rfl ?_
      have := mz_hi i2_1
      refine mv_if_ltZ (tgt := 56) (a := i2_1.toInt) d_Reader_takeFour_4 (by decide) rfl (fun b2 => ?_) (fun b2 => ?_)
      · exact mv_vret d_Reader_takeFour_56 rfl ⟨_, I_1, rfl⟩
      · refine mv_aload_n d_Reader_takeFour_7 rfl rfl ?_
        obtain ⟨v4, q3⟩ := tm_atI I_1 h_q0_1 (k := 0) rfl
        refine tr_getK q3 d_Reader_takeFour_8 f_Reader_34_9 ?_
        have := mz_hi v4
        refine mv_if_ltZ (tgt := 50) (a := v4.toInt) d_Reader_takeFour_11 (by decide) rfl (fun b5 => ?_) (fun b5 => ?_)
        · refine mv_iinc (v := (i2_1 + (-8))) (lv' := [(2, .int (i2_1 + (-8))), (0, .ref o0), (1, .int x1)]) d_Reader_takeFour_50 rfl rfl (by decide) rfl ?_
          refine mv_goto (tgt := 3) d_Reader_takeFour_53 (by decide) ?_
          have b6 : (i2_1 + (-8)).toInt = i2_1.toInt + (-8) := mz_addn (-8) (-8) (by decide) (by omega) (by have := mz_hi i2_1; omega)
          exact (ih1 (i2_1 + (-8)) T_1 M_1 n_1 I_1 h_q0_1 (by first | omega | decide) (by omega))
        · refine mv_aload_n d_Reader_takeFour_14 rfl rfl ?_
          refine tr_getK (k := 0) q3 d_Reader_takeFour_15 f_Reader_34_9 ?_
          refine mv_sipush (v := 400) d_Reader_takeFour_18 (by decide) ?_
          have := mz_hi v4
          refine mv_icmp_geZ (tgt := 50) (a := v4.toInt) (b := 400) d_Reader_takeFour_21 (by decide) rfl (by decide) (fun b7 => ?_) (fun b7 => ?_)
          · refine mv_iinc (v := (i2_1 + (-8))) (lv' := [(2, .int (i2_1 + (-8))), (0, .ref o0), (1, .int x1)]) d_Reader_takeFour_50 rfl rfl (by decide) rfl ?_
            refine mv_goto (tgt := 3) d_Reader_takeFour_53 (by decide) ?_
            have b8 : (i2_1 + (-8)).toInt = i2_1.toInt + (-8) := mz_addn (-8) (-8) (by decide) (by omega) (by have := mz_hi i2_1; omega)
            exact (ih1 (i2_1 + (-8)) T_1 M_1 n_1 I_1 h_q0_1 (by first | omega | decide) (by omega))
          · refine mv_aload_n d_Reader_takeFour_24 rfl rfl ?_
            obtain ⟨a10, q9, t_a10⟩ := tm_atR I_1 h_q0_1 (k := 3) rfl
            refine tr_getK q9 d_Reader_takeFour_25 f_Reader_15_9 ?_
            refine mv_aload_n d_Reader_takeFour_28 rfl rfl ?_
            refine tr_getK (k := 0) q3 d_Reader_takeFour_29 f_Reader_34_9 ?_
            refine mv_iload_n d_Reader_takeFour_32 rfl rfl ?_
            refine mv_iload_n d_Reader_takeFour_33 rfl rfl ?_
            refine mv_iushr (v := (x1.toUInt32 >>> (i2_1.toUInt32 &&& Int32.toUInt32 31)).toInt32) d_Reader_takeFour_34 rfl ?_
            refine mv_sipush (v := 255) d_Reader_takeFour_35 (by decide) ?_
            refine mv_iand d_Reader_takeFour_38 ?_
            refine tr_iastK tm_okF I_1 t_a10 (by decide) (Or.inl (by decide)) d_Reader_takeFour_39 (vp_in_iff.mpr (by omega)) (fun M11 I12 K13 => ?_)
            refine mv_aload_n d_Reader_takeFour_40 rfl rfl ?_
            refine mv_dup d_Reader_takeFour_41 rfl ?_
            refine tr_getK (k := 0) (K13 _ 9 0 _ q3) d_Reader_takeFour_42 f_Reader_34_9 ?_
            refine mv_iconst (v := 1) d_Reader_takeFour_45 (by decide) ?_
            refine mv_iadd d_Reader_takeFour_46 ?_
            refine tr_putK tm_okF I12 h_q0_1 (k := 0) rfl ⟨_, rfl⟩ (Or.inl (by decide)) d_Reader_takeFour_47 p_Reader_34_9 rfl rfl (fun M14 I15 q16 K17 => ?_)
            refine mv_iinc (v := (i2_1 + (-8))) (lv' := [(2, .int (i2_1 + (-8))), (0, .ref o0), (1, .int x1)]) d_Reader_takeFour_50 rfl rfl (by decide) rfl ?_
            refine mv_goto (tgt := 3) d_Reader_takeFour_53 (by decide) ?_
            have b18 : (i2_1 + (-8)).toInt = i2_1.toInt + (-8) := mz_addn (-8) (-8) (by decide) (by omega) (by have := mz_hi i2_1; omega)
            exact (ih1 (i2_1 + (-8)) T_1 M14 n_1 I15 h_q0_1 (by first | omega | decide) (by omega))
  exact mv_less (Nat.zero_le _) (Nat.zero_le _) (L3_1 4294967296 24 T0 M0 n0 I0 h_o0 (by first | omega | decide) (by show ((24 : Int) + 8 : Int) < _; decide))
theorem lV_TrustDesk_91 : mj_lV "TrustDesk" 91 kY_Reader_takeFour 1 := ⟨⟨(mj_in1 (List.mem_of_getElem? (i := 337) (by decide +kernel)) rfl), (mj_in1 (List.mem_of_getElem? (i := 3) (by decide +kernel)) rfl), (mj_in1 (List.mem_of_getElem? (i := 340) (by decide +kernel)) rfl), by decide, rfl, by decide⟩, (mj_in1 (List.mem_of_getElem? (i := 338) (by decide +kernel)) rfl), (mj_in1 (List.mem_of_getElem? (i := 339) (by decide +kernel)) rfl)⟩
theorem d_TrustDesk_feed_23 : decode kY_TrustDesk_feed.2.1 23 = .ok (.aload_n 0, 1) := by decide +kernel
theorem d_TrustDesk_feed_24 : decode kY_TrustDesk_feed.2.1 24 = .ok (.getfield 19, 3) := by decide +kernel
theorem d_TrustDesk_feed_27 : decode kY_TrustDesk_feed.2.1 27 = .ok (.iload_n 2, 1) := by decide +kernel
theorem d_TrustDesk_feed_28 : decode kY_TrustDesk_feed.2.1 28 = .ok (.invokevirtual 91, 3) := by decide +kernel
theorem d_TrustDesk_feed_31 : decode kY_TrustDesk_feed.2.1 31 = .ok (.aload_n 0, 1) := by decide +kernel
theorem d_TrustDesk_feed_32 : decode kY_TrustDesk_feed.2.1 32 = .ok (.getfield 19, 3) := by decide +kernel
theorem d_TrustDesk_feed_35 : decode kY_TrustDesk_feed.2.1 35 = .ok (.iload_n 3, 1) := by decide +kernel
theorem d_TrustDesk_feed_36 : decode kY_TrustDesk_feed.2.1 36 = .ok (.invokevirtual 91, 3) := by decide +kernel
theorem d_TrustDesk_feed_39 : decode kY_TrustDesk_feed.2.1 39 = .ok (.aload_n 0, 1) := by decide +kernel
theorem d_TrustDesk_feed_40 : decode kY_TrustDesk_feed.2.1 40 = .ok (.getfield 19, 3) := by decide +kernel
theorem d_TrustDesk_feed_43 : decode kY_TrustDesk_feed.2.1 43 = .ok (.iload 4, 2) := by decide +kernel
theorem d_TrustDesk_feed_45 : decode kY_TrustDesk_feed.2.1 45 = .ok (.invokevirtual 91, 3) := by decide +kernel
theorem d_TrustDesk_feed_48 : decode kY_TrustDesk_feed.2.1 48 = .ok (.aload_n 0, 1) := by decide +kernel
theorem d_TrustDesk_feed_49 : decode kY_TrustDesk_feed.2.1 49 = .ok (.getfield 19, 3) := by decide +kernel
theorem d_TrustDesk_feed_52 : decode kY_TrustDesk_feed.2.1 52 = .ok (.iload 5, 2) := by decide +kernel
theorem d_TrustDesk_feed_54 : decode kY_TrustDesk_feed.2.1 54 = .ok (.invokevirtual 91, 3) := by decide +kernel
theorem d_TrustDesk_feed_57 : decode kY_TrustDesk_feed.2.1 57 = .ok (.aload_n 0, 1) := by decide +kernel
theorem d_TrustDesk_feed_58 : decode kY_TrustDesk_feed.2.1 58 = .ok (.getfield 19, 3) := by decide +kernel
theorem d_TrustDesk_feed_61 : decode kY_TrustDesk_feed.2.1 61 = .ok (.getfield 88, 3) := by decide +kernel
theorem d_TrustDesk_feed_64 : decode kY_TrustDesk_feed.2.1 64 = .ok (.ireturn, 1) := by decide +kernel
theorem d_TrustDesk_feed_13 : decode kY_TrustDesk_feed.2.1 13 = .ok (.iconst (-1), 1) := by decide +kernel
theorem d_TrustDesk_feed_14 : decode kY_TrustDesk_feed.2.1 14 = .ok (.ireturn, 1) := by decide +kernel
def w_TrustDesk_feed : List Nat := [900, 953]
theorem tc_TrustDesk_feed {g : mj_G} {l : Launch} {d : Nat} {T0 : tm_H} {M0 : mj_M} {n0 x9 : Nat} {o0 : Nat} {x1 : Int32} {x2 : Int32} {x3 : Int32} {x4 : Int32} {x5 : Int32} (h_o0 : T0 o0 = some (0, 12, 0)) (I0 : tm_I tm_FT (tm_in w_TrustDesk_feed) x9 T0 M0 n0 T0 M0 n0) : mj_Met g l kY_TrustDesk_feed (d + 1) [.ref o0, .int x1, .int x2, .int x3, .int x4, .int x5] M0 n0 0 0 (tm_Q tm_FT (tm_in w_TrustDesk_feed) x9 T0 M0 n0 (fun r _ _ => ∃ v : Int32, r = some (.int v))) := by
  refine mj_enter (by decide) (Nat.le_of_ble_eq_true rfl) ?_
  refine mv_aload_n d_TrustDesk_feed_0 rfl rfl ?_
  obtain ⟨a2, q1, t_a2⟩ := tm_atR I0 h_o0 (k := 1) rfl
  refine tr_getK q1 d_TrustDesk_feed_1 f_TrustDesk_19_12 ?_
  obtain ⟨v4, q3⟩ := tm_atI I0 t_a2 (k := 0) rfl
  refine tr_getK q3 d_TrustDesk_feed_4 f_TrustDesk_88_9 ?_
  refine mv_sipush (v := 380) d_TrustDesk_feed_7 (by decide) ?_
  have := mz_hi v4
  refine mv_icmp_leZ (tgt := 15) (a := v4.toInt) (b := 380) d_TrustDesk_feed_10 (by decide) rfl (by decide) (fun b5 => ?_) (fun b5 => ?_)
  · refine mv_aload_n d_TrustDesk_feed_15 rfl rfl ?_
    refine tr_getK (k := 1) q1 d_TrustDesk_feed_16 f_TrustDesk_19_12 ?_
    refine mv_iload_n d_TrustDesk_feed_19 rfl rfl ?_
    obtain ⟨_, b12, -⟩ := I0.1 _ _ t_a2
    refine mv_callV (kc' := 0) (ks' := 0) (As := [.int x1]) (st9 := [.int x1, .ref a2]) d_TrustDesk_feed_20 lV_TrustDesk_91 b12 rfl (tc_Reader_takeFour (d := d) (x9 := x9) (o0 := a2) (x1 := x1) t_a2 I0.start) rfl (Nat.le_of_ble_eq_true rfl) (Nat.le_of_ble_eq_true rfl) (Nat.le_of_ble_eq_true rfl) (hst := rfl) (fun b6r M7 n8 b6 => ?_)
    obtain ⟨T9, J10, rfl⟩ := b6
    have I11 := I0.call J10 (tm_sub (by decide)) (Or.inl rfl)
    have t13 := J10.up h_o0
    have q14 := J10.keep h_o0 (by decide) q1
    have t15 := J10.up t_a2
    refine mv_aload_n d_TrustDesk_feed_23 rfl rfl ?_
    refine tr_getK (k := 1) q14 d_TrustDesk_feed_24 f_TrustDesk_19_12 ?_
    refine mv_iload_n d_TrustDesk_feed_27 rfl rfl ?_
    obtain ⟨_, b22, -⟩ := I11.1 _ _ t15
    refine mv_callV (kc' := 0) (ks' := 0) (As := [.int x2]) (st9 := [.int x2, .ref a2]) d_TrustDesk_feed_28 lV_TrustDesk_91 b22 rfl (tc_Reader_takeFour (d := d) (x9 := x9) (o0 := a2) (x1 := x2) t15 I11.start) rfl (Nat.le_of_ble_eq_true rfl) (Nat.le_of_ble_eq_true rfl) (Nat.le_of_ble_eq_true rfl) (hst := rfl) (fun b16r M17 n18 b16 => ?_)
    obtain ⟨T19, J20, rfl⟩ := b16
    have I21 := I11.call J20 (tm_sub (by decide)) (Or.inl rfl)
    have t23 := J20.up t13
    have q24 := J20.keep t13 (by decide) q14
    have t25 := J20.up t15
    refine mv_aload_n d_TrustDesk_feed_31 rfl rfl ?_
    refine tr_getK (k := 1) q24 d_TrustDesk_feed_32 f_TrustDesk_19_12 ?_
    refine mv_iload_n d_TrustDesk_feed_35 rfl rfl ?_
    obtain ⟨_, b32, -⟩ := I21.1 _ _ t25
    refine mv_callV (kc' := 0) (ks' := 0) (As := [.int x3]) (st9 := [.int x3, .ref a2]) d_TrustDesk_feed_36 lV_TrustDesk_91 b32 rfl (tc_Reader_takeFour (d := d) (x9 := x9) (o0 := a2) (x1 := x3) t25 I21.start) rfl (Nat.le_of_ble_eq_true rfl) (Nat.le_of_ble_eq_true rfl) (Nat.le_of_ble_eq_true rfl) (hst := rfl) (fun b26r M27 n28 b26 => ?_)
    obtain ⟨T29, J30, rfl⟩ := b26
    have I31 := I21.call J30 (tm_sub (by decide)) (Or.inl rfl)
    have t33 := J30.up t23
    have q34 := J30.keep t23 (by decide) q24
    have t35 := J30.up t25
    refine mv_aload_n d_TrustDesk_feed_39 rfl rfl ?_
    refine tr_getK (k := 1) q34 d_TrustDesk_feed_40 f_TrustDesk_19_12 ?_
    refine mv_iload d_TrustDesk_feed_43 rfl ?_
    obtain ⟨_, b42, -⟩ := I31.1 _ _ t35
    refine mv_callV (kc' := 0) (ks' := 0) (As := [.int x4]) (st9 := [.int x4, .ref a2]) d_TrustDesk_feed_45 lV_TrustDesk_91 b42 rfl (tc_Reader_takeFour (d := d) (x9 := x9) (o0 := a2) (x1 := x4) t35 I31.start) rfl (Nat.le_of_ble_eq_true rfl) (Nat.le_of_ble_eq_true rfl) (Nat.le_of_ble_eq_true rfl) (hst := rfl) (fun b36r M37 n38 b36 => ?_)
    obtain ⟨T39, J40, rfl⟩ := b36
    have I41 := I31.call J40 (tm_sub (by decide)) (Or.inl rfl)
    have t43 := J40.up t33
    have q44 := J40.keep t33 (by decide) q34
    have t45 := J40.up t35
    refine mv_aload_n d_TrustDesk_feed_48 rfl rfl ?_
    refine tr_getK (k := 1) q44 d_TrustDesk_feed_49 f_TrustDesk_19_12 ?_
    refine mv_iload d_TrustDesk_feed_52 rfl ?_
    obtain ⟨_, b52, -⟩ := I41.1 _ _ t45
    refine mv_callV (kc' := 0) (ks' := 0) (As := [.int x5]) (st9 := [.int x5, .ref a2]) d_TrustDesk_feed_54 lV_TrustDesk_91 b52 rfl (tc_Reader_takeFour (d := d) (x9 := x9) (o0 := a2) (x1 := x5) t45 I41.start) rfl (Nat.le_of_ble_eq_true rfl) (Nat.le_of_ble_eq_true rfl) (Nat.le_of_ble_eq_true rfl) (hst := rfl) (fun b46r M47 n48 b46 => ?_)
    obtain ⟨T49, J50, rfl⟩ := b46
    have I51 := I41.call J50 (tm_sub (by decide)) (Or.inl rfl)
    have t53 := J50.up t43
    have q54 := J50.keep t43 (by decide) q44
    have t55 := J50.up t45
    refine mv_aload_n d_TrustDesk_feed_57 rfl rfl ?_
    refine tr_getK (k := 1) q54 d_TrustDesk_feed_58 f_TrustDesk_19_12 ?_
    obtain ⟨v57, q56⟩ := tm_atI I51 t55 (k := 0) rfl
    refine tr_getK q56 d_TrustDesk_feed_61 f_TrustDesk_88_9 ?_
    exact mv_iret d_TrustDesk_feed_64 rfl (by first | rfl | decide) ⟨_, I51, _, rfl⟩
  · refine mv_iconst (v := (-1)) d_TrustDesk_feed_13 (by decide) ?_
    exact mv_iret d_TrustDesk_feed_14 rfl (by first | rfl | decide) ⟨_, I0, _, rfl⟩
abbrev kY_TrustDesk_fund : mj_Y := (⟨"TrustDesk", "fund", "(II)I"⟩, prog_1_method_8_code, 5, (Option.some Jvm.ClassFile.FieldType.int))
theorem d_TrustDesk_fund_0 : decode kY_TrustDesk_fund.2.1 0 = .ok (.iload_n 1, 1) := by decide +kernel
theorem d_TrustDesk_fund_1 : decode kY_TrustDesk_fund.2.1 1 = .ok (.ifCond .lt 32, 3) := by decide +kernel
theorem d_TrustDesk_fund_33 : decode kY_TrustDesk_fund.2.1 33 = .ok (.iconst (-1), 1) := by decide +kernel
theorem d_TrustDesk_fund_34 : decode kY_TrustDesk_fund.2.1 34 = .ok (.ireturn, 1) := by decide +kernel
theorem d_TrustDesk_fund_4 : decode kY_TrustDesk_fund.2.1 4 = .ok (.iload_n 1, 1) := by decide +kernel
theorem d_TrustDesk_fund_5 : decode kY_TrustDesk_fund.2.1 5 = .ok (.sipush 999, 3) := by decide +kernel
theorem d_TrustDesk_fund_8 : decode kY_TrustDesk_fund.2.1 8 = .ok (.if_icmp .gt 25, 3) := by decide +kernel
theorem d_TrustDesk_fund_11 : decode kY_TrustDesk_fund.2.1 11 = .ok (.iload_n 2, 1) := by decide +kernel
theorem d_TrustDesk_fund_12 : decode kY_TrustDesk_fund.2.1 12 = .ok (.ifCond .lt 21, 3) := by decide +kernel
theorem d_TrustDesk_fund_15 : decode kY_TrustDesk_fund.2.1 15 = .ok (.iload_n 2, 1) := by decide +kernel
theorem d_TrustDesk_fund_16 : decode kY_TrustDesk_fund.2.1 16 = .ok (.ldc 122, 2) := by decide +kernel
theorem k_TrustDesk_122 : Cond.constant "TrustDesk" 122 99999 ∈ mj_T := (mj_in1 (List.mem_of_getElem? (i := 654) (by decide +kernel)) rfl)
theorem d_TrustDesk_fund_18 : decode kY_TrustDesk_fund.2.1 18 = .ok (.if_icmp .gt 15, 3) := by decide +kernel
theorem d_TrustDesk_fund_21 : decode kY_TrustDesk_fund.2.1 21 = .ok (.aload_n 0, 1) := by decide +kernel
theorem d_TrustDesk_fund_22 : decode kY_TrustDesk_fund.2.1 22 = .ok (.getfield 53, 3) := by decide +kernel
theorem d_TrustDesk_fund_25 : decode kY_TrustDesk_fund.2.1 25 = .ok (.invokevirtual 97, 3) := by decide +kernel
theorem d_TrustDesk_fund_28 : decode kY_TrustDesk_fund.2.1 28 = .ok (.bipush 12, 2) := by decide +kernel
theorem d_TrustDesk_fund_30 : decode kY_TrustDesk_fund.2.1 30 = .ok (.if_icmp .lt 5, 3) := by decide +kernel
theorem d_TrustDesk_fund_35 : decode kY_TrustDesk_fund.2.1 35 = .ok (.new 123, 3) := by decide +kernel
theorem n_TrustDesk_123 : mj_nw "TrustDesk" 123 6 [.int 0, .int 0, .int 0, .long 0, .int 0, .int 0, .int 0, .int 0, .int 0, .int 0, .long 0, .null, .null, .null, .null] := ⟨kR_Fund, kF_Fund, 15, kt_Fund, rfl, kg_6, kto_Fund, (mj_in1 (List.mem_of_getElem? (i := 655) (by decide +kernel)) rfl), (mj_in1 (List.mem_of_getElem? (i := 656) (by decide +kernel)) rfl), (mj_in1 (List.mem_of_getElem? (i := 21) (by decide +kernel)) rfl), by decide +kernel, rfl, fun _ => rfl⟩
theorem d_TrustDesk_fund_38 : decode kY_TrustDesk_fund.2.1 38 = .ok (.dup, 1) := by decide +kernel
theorem d_TrustDesk_fund_39 : decode kY_TrustDesk_fund.2.1 39 = .ok (.aload_n 0, 1) := by decide +kernel
theorem d_TrustDesk_fund_40 : decode kY_TrustDesk_fund.2.1 40 = .ok (.getfield 53, 3) := by decide +kernel
theorem d_TrustDesk_fund_43 : decode kY_TrustDesk_fund.2.1 43 = .ok (.invokevirtual 97, 3) := by decide +kernel
theorem d_TrustDesk_fund_46 : decode kY_TrustDesk_fund.2.1 46 = .ok (.iload_n 1, 1) := by decide +kernel
theorem d_TrustDesk_fund_47 : decode kY_TrustDesk_fund.2.1 47 = .ok (.iload_n 2, 1) := by decide +kernel
theorem d_TrustDesk_fund_48 : decode kY_TrustDesk_fund.2.1 48 = .ok (.invokespecial 125, 3) := by decide +kernel
abbrev kY_Fund_init : mj_Y := (⟨"TrustDesk$Fund", "<init>", "(III)V"⟩, prog_7_method_1_code, 4, (Option.none : Option Jvm.ClassFile.FieldType))
theorem d_Fund_init_0 : decode kY_Fund_init.2.1 0 = .ok (.aload_n 0, 1) := by decide +kernel
theorem d_Fund_init_1 : decode kY_Fund_init.2.1 1 = .ok (.invokespecial 3, 3) := by decide +kernel
theorem d_Fund_init_4 : decode kY_Fund_init.2.1 4 = .ok (.aload_n 0, 1) := by decide +kernel
theorem d_Fund_init_5 : decode kY_Fund_init.2.1 5 = .ok (.bipush 7, 2) := by decide +kernel
theorem d_Fund_init_7 : decode kY_Fund_init.2.1 7 = .ok (.putfield 9, 3) := by decide +kernel
theorem p_Fund_9_6 : mj_fp "TrustDesk$Fund" 9 6 5 (kt_Fund 5) false := ⟨kR_Fund, kF_Fund, 15, "TrustDesk$Fund", kt_Fund, rfl, kg_6, by decide, (mj_in1 (List.mem_of_getElem? (i := 676) (by decide +kernel)) rfl), Or.inl rfl, kto_Fund, kn_Fund, rfl, rfl, fun h => by cases h⟩
theorem d_Fund_init_10 : decode kY_Fund_init.2.1 10 = .ok (.aload_n 0, 1) := by decide +kernel
theorem d_Fund_init_11 : decode kY_Fund_init.2.1 11 = .ok (.iconst 1, 1) := by decide +kernel
theorem d_Fund_init_12 : decode kY_Fund_init.2.1 12 = .ok (.putfield 15, 3) := by decide +kernel
theorem p_Fund_15_6 : mj_fp "TrustDesk$Fund" 15 6 6 (kt_Fund 6) false := ⟨kR_Fund, kF_Fund, 15, "TrustDesk$Fund", kt_Fund, rfl, kg_6, by decide, (mj_in1 (List.mem_of_getElem? (i := 679) (by decide +kernel)) rfl), Or.inl rfl, kto_Fund, kn_Fund, rfl, rfl, fun h => by cases h⟩
theorem d_Fund_init_15 : decode kY_Fund_init.2.1 15 = .ok (.aload_n 0, 1) := by decide +kernel
theorem d_Fund_init_16 : decode kY_Fund_init.2.1 16 = .ok (.iconst (-1), 1) := by decide +kernel
theorem d_Fund_init_17 : decode kY_Fund_init.2.1 17 = .ok (.putfield 18, 3) := by decide +kernel
theorem p_Fund_18_6 : mj_fp "TrustDesk$Fund" 18 6 8 (kt_Fund 8) false := ⟨kR_Fund, kF_Fund, 15, "TrustDesk$Fund", kt_Fund, rfl, kg_6, by decide, (mj_in1 (List.mem_of_getElem? (i := 684) (by decide +kernel)) rfl), Or.inl rfl, kto_Fund, kn_Fund, rfl, rfl, fun h => by cases h⟩
theorem d_Fund_init_20 : decode kY_Fund_init.2.1 20 = .ok (.aload_n 0, 1) := by decide +kernel
theorem d_Fund_init_21 : decode kY_Fund_init.2.1 21 = .ok (.new 21, 3) := by decide +kernel
theorem n_Fund_21 : mj_nw "TrustDesk$Fund" 21 0 [.int 0, .null, .int 0] := ⟨kR_ArrayList, kF_ArrayList, 3, kt_ArrayList, rfl, kg_0, kto_ArrayList, (mj_in1 (List.mem_of_getElem? (i := 661) (by decide +kernel)) rfl), (mj_in1 (List.mem_of_getElem? (i := 212) (by decide +kernel)) rfl), (mj_in1 (List.mem_of_getElem? (i := 9) (by decide +kernel)) rfl), by decide +kernel, rfl, fun _ => rfl⟩
theorem d_Fund_init_24 : decode kY_Fund_init.2.1 24 = .ok (.dup, 1) := by decide +kernel
theorem d_Fund_init_25 : decode kY_Fund_init.2.1 25 = .ok (.invokespecial 23, 3) := by decide +kernel
theorem lI_Fund_23 : mj_lI "TrustDesk$Fund" 23 kY_ArrayList_init 0 := ⟨⟨(mj_in1 (List.mem_of_getElem? (i := 662) (by decide +kernel)) rfl), (mj_in1 (List.mem_of_getElem? (i := 9) (by decide +kernel)) rfl), (mj_in1 (List.mem_of_getElem? (i := 215) (by decide +kernel)) rfl), by decide, rfl, by decide⟩, rfl, (mj_in1 (List.mem_of_getElem? (i := 214) (by decide +kernel)) rfl), rfl⟩
theorem d_Fund_init_28 : decode kY_Fund_init.2.1 28 = .ok (.putfield 24, 3) := by decide +kernel
theorem p_Fund_24_6 : mj_fp "TrustDesk$Fund" 24 6 11 (kt_Fund 11) true := ⟨kR_Fund, kF_Fund, 15, "TrustDesk$Fund", kt_Fund, rfl, kg_6, by decide, (mj_in1 (List.mem_of_getElem? (i := 688) (by decide +kernel)) rfl), Or.inl rfl, kto_Fund, kn_Fund, rfl, rfl, fun _ => rfl⟩
theorem d_Fund_init_31 : decode kY_Fund_init.2.1 31 = .ok (.aload_n 0, 1) := by decide +kernel
theorem d_Fund_init_32 : decode kY_Fund_init.2.1 32 = .ok (.bipush 12, 2) := by decide +kernel
theorem d_Fund_init_34 : decode kY_Fund_init.2.1 34 = .ok (.newarray .int, 2) := by decide +kernel
theorem d_Fund_init_36 : decode kY_Fund_init.2.1 36 = .ok (.putfield 28, 3) := by decide +kernel
theorem p_Fund_28_6 : mj_fp "TrustDesk$Fund" 28 6 12 (kt_Fund 12) true := ⟨kR_Fund, kF_Fund, 15, "TrustDesk$Fund", kt_Fund, rfl, kg_6, by decide, (mj_in1 (List.mem_of_getElem? (i := 691) (by decide +kernel)) rfl), Or.inl rfl, kto_Fund, kn_Fund, rfl, rfl, fun _ => rfl⟩
theorem d_Fund_init_39 : decode kY_Fund_init.2.1 39 = .ok (.aload_n 0, 1) := by decide +kernel
theorem d_Fund_init_40 : decode kY_Fund_init.2.1 40 = .ok (.bipush 100, 2) := by decide +kernel
theorem d_Fund_init_42 : decode kY_Fund_init.2.1 42 = .ok (.newarray .boolean, 2) := by decide +kernel
theorem d_Fund_init_44 : decode kY_Fund_init.2.1 44 = .ok (.putfield 32, 3) := by decide +kernel
theorem p_Fund_32_6 : mj_fp "TrustDesk$Fund" 32 6 13 (kt_Fund 13) true := ⟨kR_Fund, kF_Fund, 15, "TrustDesk$Fund", kt_Fund, rfl, kg_6, by decide, (mj_in1 (List.mem_of_getElem? (i := 692) (by decide +kernel)) rfl), Or.inl rfl, kto_Fund, kn_Fund, rfl, rfl, fun _ => rfl⟩
theorem d_Fund_init_47 : decode kY_Fund_init.2.1 47 = .ok (.aload_n 0, 1) := by decide +kernel
theorem d_Fund_init_48 : decode kY_Fund_init.2.1 48 = .ok (.bipush 101, 2) := by decide +kernel
theorem d_Fund_init_50 : decode kY_Fund_init.2.1 50 = .ok (.newarray .boolean, 2) := by decide +kernel
theorem d_Fund_init_52 : decode kY_Fund_init.2.1 52 = .ok (.putfield 36, 3) := by decide +kernel
theorem p_Fund_36_6 : mj_fp "TrustDesk$Fund" 36 6 14 (kt_Fund 14) true := ⟨kR_Fund, kF_Fund, 15, "TrustDesk$Fund", kt_Fund, rfl, kg_6, by decide, (mj_in1 (List.mem_of_getElem? (i := 693) (by decide +kernel)) rfl), Or.inl rfl, kto_Fund, kn_Fund, rfl, rfl, fun _ => rfl⟩
theorem d_Fund_init_55 : decode kY_Fund_init.2.1 55 = .ok (.aload_n 0, 1) := by decide +kernel
theorem d_Fund_init_56 : decode kY_Fund_init.2.1 56 = .ok (.iload_n 1, 1) := by decide +kernel
theorem d_Fund_init_57 : decode kY_Fund_init.2.1 57 = .ok (.putfield 39, 3) := by decide +kernel
theorem p_Fund_39_6 : mj_fp "TrustDesk$Fund" 39 6 0 (kt_Fund 0) true := ⟨kR_Fund, kF_Fund, 15, "TrustDesk$Fund", kt_Fund, rfl, kg_6, by decide, (mj_in1 (List.mem_of_getElem? (i := 664) (by decide +kernel)) rfl), Or.inl rfl, kto_Fund, kn_Fund, rfl, rfl, fun _ => rfl⟩
theorem d_Fund_init_60 : decode kY_Fund_init.2.1 60 = .ok (.aload_n 0, 1) := by decide +kernel
theorem d_Fund_init_61 : decode kY_Fund_init.2.1 61 = .ok (.iload_n 2, 1) := by decide +kernel
theorem d_Fund_init_62 : decode kY_Fund_init.2.1 62 = .ok (.putfield 42, 3) := by decide +kernel
theorem p_Fund_42_6 : mj_fp "TrustDesk$Fund" 42 6 1 (kt_Fund 1) false := ⟨kR_Fund, kF_Fund, 15, "TrustDesk$Fund", kt_Fund, rfl, kg_6, by decide, (mj_in1 (List.mem_of_getElem? (i := 666) (by decide +kernel)) rfl), Or.inl rfl, kto_Fund, kn_Fund, rfl, rfl, fun h => by cases h⟩
theorem d_Fund_init_65 : decode kY_Fund_init.2.1 65 = .ok (.aload_n 0, 1) := by decide +kernel
theorem d_Fund_init_66 : decode kY_Fund_init.2.1 66 = .ok (.iload_n 3, 1) := by decide +kernel
theorem d_Fund_init_67 : decode kY_Fund_init.2.1 67 = .ok (.putfield 45, 3) := by decide +kernel
theorem p_Fund_45_6 : mj_fp "TrustDesk$Fund" 45 6 2 (kt_Fund 2) false := ⟨kR_Fund, kF_Fund, 15, "TrustDesk$Fund", kt_Fund, rfl, kg_6, by decide, (mj_in1 (List.mem_of_getElem? (i := 668) (by decide +kernel)) rfl), Or.inl rfl, kto_Fund, kn_Fund, rfl, rfl, fun h => by cases h⟩
theorem d_Fund_init_70 : decode kY_Fund_init.2.1 70 = .ok (.iload_n 1, 1) := by decide +kernel
theorem d_Fund_init_71 : decode kY_Fund_init.2.1 71 = .ok (.ifCond .lt 17, 3) := by decide +kernel
theorem d_Fund_init_88 : decode kY_Fund_init.2.1 88 = .ok (.return_, 1) := by decide +kernel
theorem d_Fund_init_74 : decode kY_Fund_init.2.1 74 = .ok (.iload_n 1, 1) := by decide +kernel
theorem d_Fund_init_75 : decode kY_Fund_init.2.1 75 = .ok (.bipush 12, 2) := by decide +kernel
theorem d_Fund_init_77 : decode kY_Fund_init.2.1 77 = .ok (.if_icmp .ge 11, 3) := by decide +kernel
theorem d_Fund_init_80 : decode kY_Fund_init.2.1 80 = .ok (.aload_n 0, 1) := by decide +kernel
theorem d_Fund_init_81 : decode kY_Fund_init.2.1 81 = .ok (.getfield 28, 3) := by decide +kernel
theorem d_Fund_init_84 : decode kY_Fund_init.2.1 84 = .ok (.iload_n 1, 1) := by decide +kernel
theorem d_Fund_init_85 : decode kY_Fund_init.2.1 85 = .ok (.ldc 48, 2) := by decide +kernel
theorem k_Fund_48 : Cond.constant "TrustDesk$Fund" 48 1000000 ∈ mj_T := (mj_in1 (List.mem_of_getElem? (i := 663) (by decide +kernel)) rfl)
theorem d_Fund_init_87 : decode kY_Fund_init.2.1 87 = .ok (.iastore, 1) := by decide +kernel
def w_Fund_init : List Nat := [662]
theorem tc_Fund_init {g : mj_G} {l : Launch} {d : Nat} {T0 : tm_H} {M0 : mj_M} {n0 : Nat} {o0 : Nat} {x1 : Int32} {x2 : Int32} {x3 : Int32} (h_o0 : T0 o0 = some (5, 6, 0)) (m_o0 : M0 o0 = some (.inr (6, [.int 0, .int 0, .int 0, .long 0, .int 0, .int 0, .int 0, .int 0, .int 0, .int 0, .long 0, .null, .null, .null, .null]))) (I0 : tm_I tm_FT (tm_in w_Fund_init) o0 T0 M0 n0 T0 M0 n0) : mj_Met g l kY_Fund_init (d + 4) [.ref o0, .int x1, .int x2, .int x3] M0 n0 4 216 (tm_Q tm_FT (tm_in w_Fund_init) o0 T0 M0 n0 (fun r T M => r = none ∧ ∃ c0 c1 c2 c3 : Nat, M o0 = some (.inr (6, [.int x1, .int x2, .int x3, .long 0, .int 0, .int 7, .int 1, .int 0, .int (-1), .int 0, .long 0, .ref c0, .ref c1, .ref c2, .ref c3])) ∧ T c0 = some (3, 3, o0) ∧ T c1 = some (1, 5296, 12) ∧ T c2 = some (1, 5306, 100) ∧ T c3 = some (1, 5314, 101))) := by
  refine mj_enter (by decide) (Nat.le_of_ble_eq_true rfl) ?_
  refine mv_aload_n d_Fund_init_0 rfl rfl ?_
  refine mv_oinit d_Fund_init_1 (mj_in1 (List.mem_of_getElem? (i := 660) (by decide +kernel)) rfl) (Nat.le_of_ble_eq_true rfl) ?_
  refine mv_aload_n d_Fund_init_4 rfl rfl ?_
  refine mv_bipush (v := 7) d_Fund_init_5 (by decide) ?_
  refine tr_putX (k := 5) (fs' := [.int 0, .int 0, .int 0, .long 0, .int 0, .int 7, .int 0, .int 0, .int 0, .int 0, .long 0, .null, .null, .null, .null]) tm_okF I0 h_o0 (Or.inl rfl) m_o0 d_Fund_init_7 p_Fund_9_6 (Nat.le_of_ble_eq_true rfl) rfl rfl rfl (fun M1 I2 m3 K4 => ?_)
  refine mv_aload_n d_Fund_init_10 rfl rfl ?_
  refine mv_iconst (v := 1) d_Fund_init_11 (by decide) ?_
  refine tr_putX (k := 6) (fs' := [.int 0, .int 0, .int 0, .long 0, .int 0, .int 7, .int 1, .int 0, .int 0, .int 0, .long 0, .null, .null, .null, .null]) tm_okF I2 h_o0 (Or.inl rfl) m3 d_Fund_init_12 p_Fund_15_6 (Nat.le_of_ble_eq_true rfl) rfl rfl rfl (fun M5 I6 m7 K8 => ?_)
  refine mv_aload_n d_Fund_init_15 rfl rfl ?_
  refine mv_iconst (v := (-1)) d_Fund_init_16 (by decide) ?_
  refine tr_putX (k := 8) (fs' := [.int 0, .int 0, .int 0, .long 0, .int 0, .int 7, .int 1, .int 0, .int (-1), .int 0, .long 0, .null, .null, .null, .null]) tm_okF I6 h_o0 (Or.inl rfl) m7 d_Fund_init_17 p_Fund_18_6 (Nat.le_of_ble_eq_true rfl) rfl rfl rfl (fun M9 I10 m11 K12 => ?_)
  refine mv_aload_n d_Fund_init_20 rfl rfl ?_
  refine tr_new (kc' := 3) (ks' := 213) tm_okF I10 d_Fund_init_21 n_Fund_21 (Nat.le_of_ble_eq_true rfl) (Nat.le_of_ble_eq_true rfl) (fun T13 M14 I15 t_x16 m17 h18 u19 K20 => ?_)
  have m21 := (K20 _ _ h_o0).trans m11
  have t22 := u19 _ _ h_o0
  have h23 := tm_ne I10 h_o0
  refine mv_dup d_Fund_init_24 rfl ?_
  refine mv_callI (kc' := 3) (ks' := 213) (As := []) (st9 := [.ref n0, .ref n0, .ref o0]) d_Fund_init_25 lI_Fund_23 (tc_ArrayList_init (d := d) (o0 := n0) t_x16 m17 I15.start) rfl (Nat.le_of_ble_eq_true rfl) (Nat.le_of_ble_eq_true rfl) (Nat.le_of_ble_eq_true rfl) (hst := rfl) (fun b24r M25 n26 b24 => ?_)
  obtain ⟨T27, J28, rfl, m30⟩ := b24
  have I29 := I15.call J28 (tm_sub (by decide)) (Or.inr h18)
  have m31 := (J28.keepX t22 h23).trans m21
  have t32 := J28.up t_x16
  have t33 := J28.up t22
  obtain ⟨T34, I35, t_x36, u37⟩ := I29.sealL (o := o0) (c := 3) tm_okF t32 h18 m30
  have t38 := u37 _ _ t33 h23
  refine tr_putXF (k := 11) (fs' := [.int 0, .int 0, .int 0, .long 0, .int 0, .int 7, .int 1, .int 0, .int (-1), .int 0, .long 0, .ref n0, .null, .null, .null]) tm_okF I35 t38 (Or.inl rfl) m31 d_Fund_init_28 p_Fund_24_6 rfl (Nat.le_of_ble_eq_true rfl) rfl rfl rfl (fun M39 I40 m41 K42 => ?_)
  refine mv_aload_n d_Fund_init_31 rfl rfl ?_
  refine mv_bipush (v := 12) d_Fund_init_32 (by decide) ?_
  refine tr_newi (E := 5296) (N := 12) (kc' := 2) (ks' := 201) tm_okF I40 (by decide) d_Fund_init_34 (by decide) (by decide) (by decide) (Nat.le_of_ble_eq_true rfl) (Nat.le_of_ble_eq_true rfl) (fun T43 M44 I45 t_x46 u47 K48 => ?_)
  have m49 := (K48 _ _ t38).trans m41
  have t50 := u47 _ _ t38
  have t51 := u47 _ _ t_x36
  refine tr_putXF (k := 12) (fs' := [.int 0, .int 0, .int 0, .long 0, .int 0, .int 7, .int 1, .int 0, .int (-1), .int 0, .long 0, .ref n0, .ref n26, .null, .null]) tm_okF I45 t50 (Or.inl rfl) m49 d_Fund_init_36 p_Fund_28_6 rfl (Nat.le_of_ble_eq_true rfl) rfl rfl rfl (fun M52 I53 m54 K55 => ?_)
  refine mv_aload_n d_Fund_init_39 rfl rfl ?_
  refine mv_bipush (v := 100) d_Fund_init_40 (by decide) ?_
  refine tr_newz (E := 5306) (N := 100) (kc' := 1) (ks' := 101) tm_okF I53 (by decide) d_Fund_init_42 (by decide) (by decide) (by decide) (Nat.le_of_ble_eq_true rfl) (Nat.le_of_ble_eq_true rfl) (fun T56 M57 I58 t_x59 u60 K61 => ?_)
  have m62 := (K61 _ _ t50).trans m54
  have t63 := u60 _ _ t50
  have t64 := u60 _ _ t51
  have t65 := u60 _ _ t_x46
  refine tr_putXF (k := 13) (fs' := [.int 0, .int 0, .int 0, .long 0, .int 0, .int 7, .int 1, .int 0, .int (-1), .int 0, .long 0, .ref n0, .ref n26, .ref (n26 + 1), .null]) tm_okF I58 t63 (Or.inl rfl) m62 d_Fund_init_44 p_Fund_32_6 rfl (Nat.le_of_ble_eq_true rfl) rfl rfl rfl (fun M66 I67 m68 K69 => ?_)
  refine mv_aload_n d_Fund_init_47 rfl rfl ?_
  refine mv_bipush (v := 101) d_Fund_init_48 (by decide) ?_
  refine tr_newz (E := 5314) (N := 101) (kc' := 0) (ks' := 0) tm_okF I67 (by decide) d_Fund_init_50 (by decide) (by decide) (by decide) (Nat.le_of_ble_eq_true rfl) (Nat.le_of_ble_eq_true rfl) (fun T70 M71 I72 t_x73 u74 K75 => ?_)
  have m76 := (K75 _ _ t63).trans m68
  have t77 := u74 _ _ t63
  have t78 := u74 _ _ t64
  have t79 := u74 _ _ t65
  have t80 := u74 _ _ t_x59
  refine tr_putXF (k := 14) (fs' := [.int 0, .int 0, .int 0, .long 0, .int 0, .int 7, .int 1, .int 0, .int (-1), .int 0, .long 0, .ref n0, .ref n26, .ref (n26 + 1), .ref ((n26 + 1) + 1)]) tm_okF I72 t77 (Or.inl rfl) m76 d_Fund_init_52 p_Fund_36_6 rfl (Nat.le_of_ble_eq_true rfl) rfl rfl rfl (fun M81 I82 m83 K84 => ?_)
  refine mv_aload_n d_Fund_init_55 rfl rfl ?_
  refine mv_iload_n d_Fund_init_56 rfl rfl ?_
  refine tr_putXF (k := 0) (fs' := [.int x1, .int 0, .int 0, .long 0, .int 0, .int 7, .int 1, .int 0, .int (-1), .int 0, .long 0, .ref n0, .ref n26, .ref (n26 + 1), .ref ((n26 + 1) + 1)]) tm_okF I82 t77 (Or.inl rfl) m83 d_Fund_init_57 p_Fund_39_6 rfl (Nat.le_of_ble_eq_true rfl) rfl rfl rfl (fun M85 I86 m87 K88 => ?_)
  refine mv_aload_n d_Fund_init_60 rfl rfl ?_
  refine mv_iload_n d_Fund_init_61 rfl rfl ?_
  refine tr_putX (k := 1) (fs' := [.int x1, .int x2, .int 0, .long 0, .int 0, .int 7, .int 1, .int 0, .int (-1), .int 0, .long 0, .ref n0, .ref n26, .ref (n26 + 1), .ref ((n26 + 1) + 1)]) tm_okF I86 t77 (Or.inl rfl) m87 d_Fund_init_62 p_Fund_42_6 (Nat.le_of_ble_eq_true rfl) rfl rfl rfl (fun M89 I90 m91 K92 => ?_)
  refine mv_aload_n d_Fund_init_65 rfl rfl ?_
  refine mv_iload_n d_Fund_init_66 rfl rfl ?_
  refine tr_putX (k := 2) (fs' := [.int x1, .int x2, .int x3, .long 0, .int 0, .int 7, .int 1, .int 0, .int (-1), .int 0, .long 0, .ref n0, .ref n26, .ref (n26 + 1), .ref ((n26 + 1) + 1)]) tm_okF I90 t77 (Or.inl rfl) m91 d_Fund_init_67 p_Fund_45_6 (Nat.le_of_ble_eq_true rfl) rfl rfl rfl (fun M93 I94 m95 K96 => ?_)
  refine mv_iload_n d_Fund_init_70 rfl rfl ?_
  have := mz_hi x1
  refine mv_if_ltZ (tgt := 88) (a := x1.toInt) d_Fund_init_71 (by decide) rfl (fun b97 => ?_) (fun b97 => ?_)
  · exact mv_vret d_Fund_init_88 rfl ⟨_, I94, rfl, _, _, _, _, m95, t78, t79, t80, t_x73⟩
  · refine mv_iload_n d_Fund_init_74 rfl rfl ?_
    refine mv_bipush (v := 12) d_Fund_init_75 (by decide) ?_
    have := mz_hi x1
    refine mv_icmp_geZ (tgt := 88) (a := x1.toInt) (b := 12) d_Fund_init_77 (by decide) rfl (by decide) (fun b98 => ?_) (fun b98 => ?_)
    · exact mv_vret d_Fund_init_88 rfl ⟨_, I94, rfl, _, _, _, _, m95, t78, t79, t80, t_x73⟩
    · refine mv_aload_n d_Fund_init_80 rfl rfl ?_
      refine mv_get d_Fund_init_81 f_Fund_28_6 m95 rfl ?_
      refine mv_iload_n d_Fund_init_84 rfl rfl ?_
      refine mv_ldc d_Fund_init_85 k_Fund_48 ?_
      refine tr_iastX tm_okF I94 t79 (by decide) (Or.inl (by decide)) d_Fund_init_87 (vp_in_iff.mpr (by omega)) (fun M99 I100 K101 K102 => ?_)
      have m103 := (K102 _ (tm_dif t77 t79 rfl)).trans m95
      exact mv_vret d_Fund_init_88 rfl ⟨_, I100, rfl, _, _, _, _, m103, t78, t79, t80, t_x73⟩
theorem lI_TrustDesk_125 : mj_lI "TrustDesk" 125 kY_Fund_init 3 := ⟨⟨(mj_in1 (List.mem_of_getElem? (i := 657) (by decide +kernel)) rfl), (mj_in1 (List.mem_of_getElem? (i := 21) (by decide +kernel)) rfl), (mj_in1 (List.mem_of_getElem? (i := 659) (by decide +kernel)) rfl), by decide, rfl, by decide⟩, rfl, (mj_in1 (List.mem_of_getElem? (i := 658) (by decide +kernel)) rfl), rfl⟩
theorem d_TrustDesk_fund_51 : decode kY_TrustDesk_fund.2.1 51 = .ok (.astore_n 3, 1) := by decide +kernel
theorem d_TrustDesk_fund_52 : decode kY_TrustDesk_fund.2.1 52 = .ok (.aload_n 0, 1) := by decide +kernel
theorem d_TrustDesk_fund_53 : decode kY_TrustDesk_fund.2.1 53 = .ok (.getfield 19, 3) := by decide +kernel
theorem d_TrustDesk_fund_56 : decode kY_TrustDesk_fund.2.1 56 = .ok (.aload_n 3, 1) := by decide +kernel
theorem d_TrustDesk_fund_57 : decode kY_TrustDesk_fund.2.1 57 = .ok (.invokevirtual 128, 3) := by decide +kernel
abbrev kY_Reader_readDeed : mj_Y := (⟨"TrustDesk$Reader", "readDeed", "(LTrustDesk$Fund;)Z"⟩, prog_10_method_4_code, 3, (Option.some Jvm.ClassFile.FieldType.boolean))
theorem d_Reader_readDeed_0 : decode kY_Reader_readDeed.2.1 0 = .ok (.aload_n 0, 1) := by decide +kernel
theorem d_Reader_readDeed_1 : decode kY_Reader_readDeed.2.1 1 = .ok (.bipush 10, 2) := by decide +kernel
theorem d_Reader_readDeed_3 : decode kY_Reader_readDeed.2.1 3 = .ok (.invokevirtual 37, 3) := by decide +kernel
theorem d_Reader_readDeed_6 : decode kY_Reader_readDeed.2.1 6 = .ok (.iconst 0, 1) := by decide +kernel
theorem d_Reader_readDeed_7 : decode kY_Reader_readDeed.2.1 7 = .ok (.istore_n 2, 1) := by decide +kernel
theorem d_Reader_readDeed_8 : decode kY_Reader_readDeed.2.1 8 = .ok (.iload_n 2, 1) := by decide +kernel
theorem d_Reader_readDeed_9 : decode kY_Reader_readDeed.2.1 9 = .ok (.bipush 12, 2) := by decide +kernel
theorem d_Reader_readDeed_11 : decode kY_Reader_readDeed.2.1 11 = .ok (.if_icmp .gt 27, 3) := by decide +kernel
theorem d_Reader_readDeed_38 : decode kY_Reader_readDeed.2.1 38 = .ok (.iconst 1, 1) := by decide +kernel
theorem d_Reader_readDeed_39 : decode kY_Reader_readDeed.2.1 39 = .ok (.ireturn, 1) := by decide +kernel
theorem d_Reader_readDeed_14 : decode kY_Reader_readDeed.2.1 14 = .ok (.aload_n 0, 1) := by decide +kernel
theorem d_Reader_readDeed_15 : decode kY_Reader_readDeed.2.1 15 = .ok (.getfield 41, 3) := by decide +kernel
theorem d_Reader_readDeed_18 : decode kY_Reader_readDeed.2.1 18 = .ok (.ifCond .eq 20, 3) := by decide +kernel
theorem d_Reader_readDeed_21 : decode kY_Reader_readDeed.2.1 21 = .ok (.aload_n 0, 1) := by decide +kernel
theorem d_Reader_readDeed_22 : decode kY_Reader_readDeed.2.1 22 = .ok (.aload_n 1, 1) := by decide +kernel
theorem d_Reader_readDeed_23 : decode kY_Reader_readDeed.2.1 23 = .ok (.iload_n 2, 1) := by decide +kernel
theorem d_Reader_readDeed_24 : decode kY_Reader_readDeed.2.1 24 = .ok (.invokevirtual 48, 3) := by decide +kernel
abbrev kY_Reader_clause : mj_Y := (⟨"TrustDesk$Reader", "clause", "(LTrustDesk$Fund;I)Z"⟩, prog_10_method_10_code, 6, (Option.some Jvm.ClassFile.FieldType.boolean))
theorem d_Reader_clause_0 : decode kY_Reader_clause.2.1 0 = .ok (.aload_n 0, 1) := by decide +kernel
theorem d_Reader_clause_1 : decode kY_Reader_clause.2.1 1 = .ok (.bipush 26, 2) := by decide +kernel
theorem d_Reader_clause_3 : decode kY_Reader_clause.2.1 3 = .ok (.invokevirtual 52, 3) := by decide +kernel
theorem d_Reader_clause_6 : decode kY_Reader_clause.2.1 6 = .ok (.istore_n 3, 1) := by decide +kernel
theorem d_Reader_clause_7 : decode kY_Reader_clause.2.1 7 = .ok (.aload_n 0, 1) := by decide +kernel
theorem d_Reader_clause_8 : decode kY_Reader_clause.2.1 8 = .ok (.bipush 24, 2) := by decide +kernel
theorem d_Reader_clause_10 : decode kY_Reader_clause.2.1 10 = .ok (.invokevirtual 52, 3) := by decide +kernel
theorem d_Reader_clause_13 : decode kY_Reader_clause.2.1 13 = .ok (.istore 4, 2) := by decide +kernel
theorem d_Reader_clause_15 : decode kY_Reader_clause.2.1 15 = .ok (.iload_n 3, 1) := by decide +kernel
theorem d_Reader_clause_16 : decode kY_Reader_clause.2.1 16 = .ok (.ifCond .ne 23, 3) := by decide +kernel
theorem d_Reader_clause_39 : decode kY_Reader_clause.2.1 39 = .ok (.iload_n 2, 1) := by decide +kernel
theorem d_Reader_clause_40 : decode kY_Reader_clause.2.1 40 = .ok (.bipush 12, 2) := by decide +kernel
theorem d_Reader_clause_42 : decode kY_Reader_clause.2.1 42 = .ok (.if_icmp .ge 19, 3) := by decide +kernel
theorem d_Reader_clause_61 : decode kY_Reader_clause.2.1 61 = .ok (.aload_n 0, 1) := by decide +kernel
theorem d_Reader_clause_62 : decode kY_Reader_clause.2.1 62 = .ok (.iconst 4, 1) := by decide +kernel
theorem d_Reader_clause_63 : decode kY_Reader_clause.2.1 63 = .ok (.invokevirtual 56, 3) := by decide +kernel
theorem d_Reader_clause_66 : decode kY_Reader_clause.2.1 66 = .ok (.ireturn, 1) := by decide +kernel
theorem d_Reader_clause_45 : decode kY_Reader_clause.2.1 45 = .ok (.iload_n 3, 1) := by decide +kernel
theorem d_Reader_clause_46 : decode kY_Reader_clause.2.1 46 = .ok (.ifCond .eq 21, 3) := by decide +kernel
theorem d_Reader_clause_67 : decode kY_Reader_clause.2.1 67 = .ok (.iload_n 3, 1) := by decide +kernel
theorem d_Reader_clause_68 : decode kY_Reader_clause.2.1 68 = .ok (.ifCond .eq 37, 3) := by decide +kernel
theorem d_Reader_clause_105 : decode kY_Reader_clause.2.1 105 = .ok (.iload 4, 2) := by decide +kernel
theorem d_Reader_clause_107 : decode kY_Reader_clause.2.1 107 = .ok (.ifCond .eq 14, 3) := by decide +kernel
theorem d_Reader_clause_121 : decode kY_Reader_clause.2.1 121 = .ok (.aload_n 0, 1) := by decide +kernel
theorem d_Reader_clause_122 : decode kY_Reader_clause.2.1 122 = .ok (.aload_n 1, 1) := by decide +kernel
theorem d_Reader_clause_123 : decode kY_Reader_clause.2.1 123 = .ok (.invokevirtual 160, 3) := by decide +kernel
abbrev kY_Reader_trustClause : mj_Y := (⟨"TrustDesk$Reader", "trustClause", "(LTrustDesk$Fund;)Z"⟩, prog_10_method_12_code, 3, (Option.some Jvm.ClassFile.FieldType.boolean))
theorem d_Reader_trustClause_0 : decode kY_Reader_trustClause.2.1 0 = .ok (.aload_n 0, 1) := by decide +kernel
theorem d_Reader_trustClause_1 : decode kY_Reader_trustClause.2.1 1 = .ok (.invokevirtual 82, 3) := by decide +kernel
theorem d_Reader_trustClause_4 : decode kY_Reader_trustClause.2.1 4 = .ok (.aload_n 0, 1) := by decide +kernel
theorem d_Reader_trustClause_5 : decode kY_Reader_trustClause.2.1 5 = .ok (.iconst 1, 1) := by decide +kernel
theorem d_Reader_trustClause_6 : decode kY_Reader_trustClause.2.1 6 = .ok (.bipush 7, 2) := by decide +kernel
theorem d_Reader_trustClause_8 : decode kY_Reader_trustClause.2.1 8 = .ok (.invokevirtual 107, 3) := by decide +kernel
theorem d_Reader_trustClause_11 : decode kY_Reader_trustClause.2.1 11 = .ok (.ifCond .ne 5, 3) := by decide +kernel
theorem d_Reader_trustClause_16 : decode kY_Reader_trustClause.2.1 16 = .ok (.aload_n 0, 1) := by decide +kernel
theorem d_Reader_trustClause_17 : decode kY_Reader_trustClause.2.1 17 = .ok (.getfield 111, 3) := by decide +kernel
theorem d_Reader_trustClause_20 : decode kY_Reader_trustClause.2.1 20 = .ok (.istore_n 2, 1) := by decide +kernel
theorem d_Reader_trustClause_21 : decode kY_Reader_trustClause.2.1 21 = .ok (.aload_n 0, 1) := by decide +kernel
theorem d_Reader_trustClause_22 : decode kY_Reader_trustClause.2.1 22 = .ok (.iconst 1, 1) := by decide +kernel
theorem d_Reader_trustClause_23 : decode kY_Reader_trustClause.2.1 23 = .ok (.iload_n 2, 1) := by decide +kernel
theorem d_Reader_trustClause_24 : decode kY_Reader_trustClause.2.1 24 = .ok (.invokevirtual 107, 3) := by decide +kernel
theorem d_Reader_trustClause_27 : decode kY_Reader_trustClause.2.1 27 = .ok (.ifCond .ne 5, 3) := by decide +kernel
theorem d_Reader_trustClause_32 : decode kY_Reader_trustClause.2.1 32 = .ok (.aload_n 1, 1) := by decide +kernel
theorem d_Reader_trustClause_33 : decode kY_Reader_trustClause.2.1 33 = .ok (.iload_n 2, 1) := by decide +kernel
theorem d_Reader_trustClause_34 : decode kY_Reader_trustClause.2.1 34 = .ok (.putfield 166, 3) := by decide +kernel
theorem p_Reader_166_6 : mj_fp "TrustDesk$Reader" 166 6 5 (kt_Fund 5) false := ⟨kR_Fund, kF_Fund, 15, "TrustDesk$Fund", kt_Fund, rfl, kg_6, by decide, (mj_in1 (List.mem_of_getElem? (i := 677) (by decide +kernel)) rfl), Or.inl rfl, kto_Fund, kn_Fund, rfl, rfl, fun h => by cases h⟩
theorem d_Reader_trustClause_37 : decode kY_Reader_trustClause.2.1 37 = .ok (.aload_n 1, 1) := by decide +kernel
theorem d_Reader_trustClause_38 : decode kY_Reader_trustClause.2.1 38 = .ok (.aload_n 0, 1) := by decide +kernel
theorem d_Reader_trustClause_39 : decode kY_Reader_trustClause.2.1 39 = .ok (.getfield 111, 3) := by decide +kernel
theorem d_Reader_trustClause_42 : decode kY_Reader_trustClause.2.1 42 = .ok (.putfield 169, 3) := by decide +kernel
theorem p_Reader_169_6 : mj_fp "TrustDesk$Reader" 169 6 6 (kt_Fund 6) false := ⟨kR_Fund, kF_Fund, 15, "TrustDesk$Fund", kt_Fund, rfl, kg_6, by decide, (mj_in1 (List.mem_of_getElem? (i := 680) (by decide +kernel)) rfl), Or.inl rfl, kto_Fund, kn_Fund, rfl, rfl, fun h => by cases h⟩
theorem d_Reader_trustClause_45 : decode kY_Reader_trustClause.2.1 45 = .ok (.iconst 1, 1) := by decide +kernel
theorem d_Reader_trustClause_46 : decode kY_Reader_trustClause.2.1 46 = .ok (.ireturn, 1) := by decide +kernel
theorem d_Reader_trustClause_30 : decode kY_Reader_trustClause.2.1 30 = .ok (.iconst 0, 1) := by decide +kernel
theorem d_Reader_trustClause_31 : decode kY_Reader_trustClause.2.1 31 = .ok (.ireturn, 1) := by decide +kernel
theorem d_Reader_trustClause_14 : decode kY_Reader_trustClause.2.1 14 = .ok (.iconst 0, 1) := by decide +kernel
theorem d_Reader_trustClause_15 : decode kY_Reader_trustClause.2.1 15 = .ok (.ireturn, 1) := by decide +kernel
def w_Reader_trustClause : List Nat := [605, 606, 901, 902, 909, 910, 911, 912, 913, 914]
theorem tc_Reader_trustClause {g : mj_G} {l : Launch} {d : Nat} {T0 : tm_H} {M0 : mj_M} {n0 x9 : Nat} {o0 : Nat} {o1 : Nat} (h_o0 : T0 o0 = some (0, 9, 0)) (h_o1 : T0 o1 = some (0, 6, 0)) (I0 : tm_I tm_FT (tm_in w_Reader_trustClause) x9 T0 M0 n0 T0 M0 n0) : mj_Met g l kY_Reader_trustClause (d + 2) [.ref o0, .ref o1] M0 n0 0 0 (tm_Q tm_FT (tm_in w_Reader_trustClause) x9 T0 M0 n0 (fun r _ _ => ∃ v : Int32, r = some (.int v) ∧ 0 ≤ v.toInt ∧ v.toInt ≤ 1)) := by
  refine mj_enter (by decide) (Nat.le_of_ble_eq_true rfl) ?_
  refine mv_aload_n d_Reader_trustClause_0 rfl rfl ?_
  obtain ⟨_, b7, -⟩ := I0.1 _ _ h_o0
  refine mv_callV (kc' := 0) (ks' := 0) (As := []) (st9 := [.ref o0]) d_Reader_trustClause_1 lV_Reader_82 b7 rfl (tc_Reader_advance (d := (d + 1)) (x9 := x9) (o0 := o0) h_o0 I0.start) rfl (Nat.le_of_ble_eq_true rfl) (Nat.le_of_ble_eq_true rfl) (Nat.le_of_ble_eq_true rfl) (hst := rfl) (fun b1r M2 n3 b1 => ?_)
  obtain ⟨T4, J5, rfl⟩ := b1
  have I6 := I0.call J5 (tm_sub (by decide)) (Or.inl rfl)
  have t8 := J5.up h_o0
  have t9 := J5.up h_o1
  refine mv_aload_n d_Reader_trustClause_4 rfl rfl ?_
  refine mv_iconst (v := 1) d_Reader_trustClause_5 (by decide) ?_
  refine mv_bipush (v := 7) d_Reader_trustClause_6 (by decide) ?_
  obtain ⟨_, b16, -⟩ := I6.1 _ _ t8
  refine mv_callV (kc' := 0) (ks' := 0) (As := [.int 1, .int 7]) (st9 := [.int 7, .int 1, .ref o0]) d_Reader_trustClause_8 lV_Reader_107 b16 rfl (tc_Reader_numeral (d := d) (x9 := x9) (o0 := o0) (x1 := 1) (x2 := 7) t8 I6.start) rfl (Nat.le_of_ble_eq_true rfl) (Nat.le_of_ble_eq_true rfl) (Nat.le_of_ble_eq_true rfl) (hst := rfl) (fun b10r M11 n12 b10 => ?_)
  obtain ⟨T13, J14, v17, rfl, b18, b19⟩ := b10
  have I15 := I6.call J14 (tm_sub (by decide)) (Or.inl rfl)
  have t20 := J14.up t8
  have t21 := J14.up t9
  have := mz_hi v17
  refine mv_if_neZ (tgt := 16) (a := v17.toInt) d_Reader_trustClause_11 (by decide) rfl (fun b22 => ?_) (fun b22 => ?_)
  · refine mv_aload_n d_Reader_trustClause_16 rfl rfl ?_
    obtain ⟨v24, q23⟩ := tm_atI I15 t20 (k := 14) rfl
    refine tr_getK q23 d_Reader_trustClause_17 f_Reader_111_9 ?_
    refine mv_istore_n (lv' := [(2, .int v24), (0, .ref o0), (1, .ref o1)]) d_Reader_trustClause_20 rfl (by decide) rfl ?_
    refine mv_aload_n d_Reader_trustClause_21 rfl rfl ?_
    refine mv_iconst (v := 1) d_Reader_trustClause_22 (by decide) ?_
    refine mv_iload_n d_Reader_trustClause_23 rfl rfl ?_
    obtain ⟨_, b31, -⟩ := I15.1 _ _ t20
    refine mv_callV (kc' := 0) (ks' := 0) (As := [.int 1, .int v24]) (st9 := [.int v24, .int 1, .ref o0]) d_Reader_trustClause_24 lV_Reader_107 b31 rfl (tc_Reader_numeral (d := d) (x9 := x9) (o0 := o0) (x1 := 1) (x2 := v24) t20 I15.start) rfl (Nat.le_of_ble_eq_true rfl) (Nat.le_of_ble_eq_true rfl) (Nat.le_of_ble_eq_true rfl) (hst := rfl) (fun b25r M26 n27 b25 => ?_)
    obtain ⟨T28, J29, v32, rfl, b33, b34⟩ := b25
    have I30 := I15.call J29 (tm_sub (by decide)) (Or.inl rfl)
    have t35 := J29.up t20
    have t36 := J29.up t21
    have := mz_hi v32
    refine mv_if_neZ (tgt := 32) (a := v32.toInt) d_Reader_trustClause_27 (by decide) rfl (fun b37 => ?_) (fun b37 => ?_)
    · refine mv_aload_n d_Reader_trustClause_32 rfl rfl ?_
      refine mv_iload_n d_Reader_trustClause_33 rfl rfl ?_
      refine tr_putK tm_okF I30 t36 (k := 5) rfl ⟨_, rfl⟩ (Or.inl (by decide)) d_Reader_trustClause_34 p_Reader_166_6 rfl rfl (fun M38 I39 q40 K41 => ?_)
      refine mv_aload_n d_Reader_trustClause_37 rfl rfl ?_
      refine mv_aload_n d_Reader_trustClause_38 rfl rfl ?_
      obtain ⟨v43, q42⟩ := tm_atI I39 t35 (k := 14) rfl
      refine tr_getK q42 d_Reader_trustClause_39 f_Reader_111_9 ?_
      refine tr_putK tm_okF I39 t36 (k := 6) rfl ⟨_, rfl⟩ (Or.inl (by decide)) d_Reader_trustClause_42 p_Reader_169_6 rfl rfl (fun M44 I45 q46 K47 => ?_)
      refine mv_iconst (v := 1) d_Reader_trustClause_45 (by decide) ?_
      exact mv_iret d_Reader_trustClause_46 rfl (by decide) ⟨_, I45, _, rfl, by decide, by decide⟩
    · refine mv_iconst (v := 0) d_Reader_trustClause_30 (by decide) ?_
      exact mv_iret d_Reader_trustClause_31 rfl (by decide) ⟨_, I30, _, rfl, by decide, by decide⟩
  · refine mv_iconst (v := 0) d_Reader_trustClause_14 (by decide) ?_
    exact mv_iret d_Reader_trustClause_15 rfl (by decide) ⟨_, I15, _, rfl, by decide, by decide⟩
theorem lV_Reader_160 : mj_lV "TrustDesk$Reader" 160 kY_Reader_trustClause 1 := ⟨⟨(mj_in1 (List.mem_of_getElem? (i := 809) (by decide +kernel)) rfl), (mj_in1 (List.mem_of_getElem? (i := 3) (by decide +kernel)) rfl), (mj_in1 (List.mem_of_getElem? (i := 812) (by decide +kernel)) rfl), by decide, rfl, by decide⟩, (mj_in1 (List.mem_of_getElem? (i := 811) (by decide +kernel)) rfl), (mj_in (List.mem_append_left _ (List.mem_of_getElem? (i := 39) (by decide +kernel))) rfl)⟩
theorem d_Reader_clause_126 : decode kY_Reader_clause.2.1 126 = .ok (.ifCond .ne 5, 3) := by decide +kernel
theorem d_Reader_clause_131 : decode kY_Reader_clause.2.1 131 = .ok (.aload_n 0, 1) := by decide +kernel
theorem d_Reader_clause_132 : decode kY_Reader_clause.2.1 132 = .ok (.bipush 59, 2) := by decide +kernel
theorem d_Reader_clause_134 : decode kY_Reader_clause.2.1 134 = .ok (.invokevirtual 63, 3) := by decide +kernel
theorem d_Reader_clause_137 : decode kY_Reader_clause.2.1 137 = .ok (.ireturn, 1) := by decide +kernel
theorem d_Reader_clause_129 : decode kY_Reader_clause.2.1 129 = .ok (.iconst 0, 1) := by decide +kernel
theorem d_Reader_clause_130 : decode kY_Reader_clause.2.1 130 = .ok (.ireturn, 1) := by decide +kernel
theorem d_Reader_clause_110 : decode kY_Reader_clause.2.1 110 = .ok (.aload_n 0, 1) := by decide +kernel
theorem d_Reader_clause_111 : decode kY_Reader_clause.2.1 111 = .ok (.aload_n 1, 1) := by decide +kernel
theorem d_Reader_clause_112 : decode kY_Reader_clause.2.1 112 = .ok (.invokevirtual 156, 3) := by decide +kernel
abbrev kY_Reader_markClause : mj_Y := (⟨"TrustDesk$Reader", "markClause", "(LTrustDesk$Fund;)Z"⟩, prog_10_method_11_code, 3, (Option.some Jvm.ClassFile.FieldType.boolean))
theorem d_Reader_markClause_0 : decode kY_Reader_markClause.2.1 0 = .ok (.aload_n 0, 1) := by decide +kernel
theorem d_Reader_markClause_1 : decode kY_Reader_markClause.2.1 1 = .ok (.invokevirtual 82, 3) := by decide +kernel
theorem d_Reader_markClause_4 : decode kY_Reader_markClause.2.1 4 = .ok (.aload_n 0, 1) := by decide +kernel
theorem d_Reader_markClause_5 : decode kY_Reader_markClause.2.1 5 = .ok (.iconst 0, 1) := by decide +kernel
theorem d_Reader_markClause_6 : decode kY_Reader_markClause.2.1 6 = .ok (.bipush 7, 2) := by decide +kernel
theorem d_Reader_markClause_8 : decode kY_Reader_markClause.2.1 8 = .ok (.invokevirtual 107, 3) := by decide +kernel
theorem d_Reader_markClause_11 : decode kY_Reader_markClause.2.1 11 = .ok (.ifCond .ne 5, 3) := by decide +kernel
theorem d_Reader_markClause_16 : decode kY_Reader_markClause.2.1 16 = .ok (.aload_n 1, 1) := by decide +kernel
theorem d_Reader_markClause_17 : decode kY_Reader_markClause.2.1 17 = .ok (.dup, 1) := by decide +kernel
theorem d_Reader_markClause_18 : decode kY_Reader_markClause.2.1 18 = .ok (.getfield 163, 3) := by decide +kernel
theorem f_Reader_163_6 : mj_fl "TrustDesk$Reader" 163 6 4 := ⟨kR_Fund, kF_Fund, 15, "TrustDesk$Fund", rfl, kg_6, by decide, (mj_in1 (List.mem_of_getElem? (i := 673) (by decide +kernel)) rfl), Or.inl rfl⟩
theorem d_Reader_markClause_21 : decode kY_Reader_markClause.2.1 21 = .ok (.iconst 1, 1) := by decide +kernel
theorem d_Reader_markClause_22 : decode kY_Reader_markClause.2.1 22 = .ok (.aload_n 0, 1) := by decide +kernel
theorem d_Reader_markClause_23 : decode kY_Reader_markClause.2.1 23 = .ok (.getfield 111, 3) := by decide +kernel
theorem d_Reader_markClause_26 : decode kY_Reader_markClause.2.1 26 = .ok (.ishl, 1) := by decide +kernel
theorem d_Reader_markClause_27 : decode kY_Reader_markClause.2.1 27 = .ok (.ior, 1) := by decide +kernel
theorem d_Reader_markClause_28 : decode kY_Reader_markClause.2.1 28 = .ok (.putfield 163, 3) := by decide +kernel
theorem p_Reader_163_6 : mj_fp "TrustDesk$Reader" 163 6 4 (kt_Fund 4) false := ⟨kR_Fund, kF_Fund, 15, "TrustDesk$Fund", kt_Fund, rfl, kg_6, by decide, (mj_in1 (List.mem_of_getElem? (i := 673) (by decide +kernel)) rfl), Or.inl rfl, kto_Fund, kn_Fund, rfl, rfl, fun h => by cases h⟩
theorem d_Reader_markClause_31 : decode kY_Reader_markClause.2.1 31 = .ok (.iconst 0, 1) := by decide +kernel
theorem d_Reader_markClause_32 : decode kY_Reader_markClause.2.1 32 = .ok (.istore_n 2, 1) := by decide +kernel
theorem d_Reader_markClause_33 : decode kY_Reader_markClause.2.1 33 = .ok (.iload_n 2, 1) := by decide +kernel
theorem d_Reader_markClause_34 : decode kY_Reader_markClause.2.1 34 = .ok (.sipush 400, 3) := by decide +kernel
theorem d_Reader_markClause_37 : decode kY_Reader_markClause.2.1 37 = .ok (.if_icmp .ge 44, 3) := by decide +kernel
theorem d_Reader_markClause_81 : decode kY_Reader_markClause.2.1 81 = .ok (.iconst 1, 1) := by decide +kernel
theorem d_Reader_markClause_82 : decode kY_Reader_markClause.2.1 82 = .ok (.ireturn, 1) := by decide +kernel
theorem d_Reader_markClause_40 : decode kY_Reader_markClause.2.1 40 = .ok (.aload_n 0, 1) := by decide +kernel
theorem d_Reader_markClause_41 : decode kY_Reader_markClause.2.1 41 = .ok (.getfield 41, 3) := by decide +kernel
theorem d_Reader_markClause_44 : decode kY_Reader_markClause.2.1 44 = .ok (.iconst 2, 1) := by decide +kernel
theorem d_Reader_markClause_45 : decode kY_Reader_markClause.2.1 45 = .ok (.if_icmp .ne 36, 3) := by decide +kernel
theorem d_Reader_markClause_48 : decode kY_Reader_markClause.2.1 48 = .ok (.aload_n 0, 1) := by decide +kernel
theorem d_Reader_markClause_49 : decode kY_Reader_markClause.2.1 49 = .ok (.iconst 0, 1) := by decide +kernel
theorem d_Reader_markClause_50 : decode kY_Reader_markClause.2.1 50 = .ok (.bipush 7, 2) := by decide +kernel
theorem d_Reader_markClause_52 : decode kY_Reader_markClause.2.1 52 = .ok (.invokevirtual 107, 3) := by decide +kernel
theorem d_Reader_markClause_55 : decode kY_Reader_markClause.2.1 55 = .ok (.ifCond .ne 5, 3) := by decide +kernel
theorem d_Reader_markClause_60 : decode kY_Reader_markClause.2.1 60 = .ok (.aload_n 1, 1) := by decide +kernel
theorem d_Reader_markClause_61 : decode kY_Reader_markClause.2.1 61 = .ok (.dup, 1) := by decide +kernel
theorem d_Reader_markClause_62 : decode kY_Reader_markClause.2.1 62 = .ok (.getfield 163, 3) := by decide +kernel
theorem d_Reader_markClause_65 : decode kY_Reader_markClause.2.1 65 = .ok (.iconst 1, 1) := by decide +kernel
theorem d_Reader_markClause_66 : decode kY_Reader_markClause.2.1 66 = .ok (.aload_n 0, 1) := by decide +kernel
theorem d_Reader_markClause_67 : decode kY_Reader_markClause.2.1 67 = .ok (.getfield 111, 3) := by decide +kernel
theorem d_Reader_markClause_70 : decode kY_Reader_markClause.2.1 70 = .ok (.ishl, 1) := by decide +kernel
theorem d_Reader_markClause_71 : decode kY_Reader_markClause.2.1 71 = .ok (.ior, 1) := by decide +kernel
theorem d_Reader_markClause_72 : decode kY_Reader_markClause.2.1 72 = .ok (.putfield 163, 3) := by decide +kernel
theorem d_Reader_markClause_75 : decode kY_Reader_markClause.2.1 75 = .ok (.iinc 2 1, 3) := by decide +kernel
theorem d_Reader_markClause_78 : decode kY_Reader_markClause.2.1 78 = .ok (.goto (-45), 3) := by decide +kernel
theorem d_Reader_markClause_58 : decode kY_Reader_markClause.2.1 58 = .ok (.iconst 0, 1) := by decide +kernel
theorem d_Reader_markClause_59 : decode kY_Reader_markClause.2.1 59 = .ok (.ireturn, 1) := by decide +kernel
theorem d_Reader_markClause_14 : decode kY_Reader_markClause.2.1 14 = .ok (.iconst 0, 1) := by decide +kernel
theorem d_Reader_markClause_15 : decode kY_Reader_markClause.2.1 15 = .ok (.ireturn, 1) := by decide +kernel
def w_Reader_markClause : List Nat := [604, 901, 902, 909, 910, 911, 912, 913, 914]
theorem tc_Reader_markClause {g : mj_G} {l : Launch} {d : Nat} {T0 : tm_H} {M0 : mj_M} {n0 x9 : Nat} {o0 : Nat} {o1 : Nat} (h_o0 : T0 o0 = some (0, 9, 0)) (h_o1 : T0 o1 = some (0, 6, 0)) (I0 : tm_I tm_FT (tm_in w_Reader_markClause) x9 T0 M0 n0 T0 M0 n0) : mj_Met g l kY_Reader_markClause (d + 2) [.ref o0, .ref o1] M0 n0 0 0 (tm_Q tm_FT (tm_in w_Reader_markClause) x9 T0 M0 n0 (fun r _ _ => ∃ v : Int32, r = some (.int v) ∧ 0 ≤ v.toInt ∧ v.toInt ≤ 1)) := by
  refine mj_enter (by decide) (Nat.le_of_ble_eq_true rfl) ?_
  refine mv_aload_n d_Reader_markClause_0 rfl rfl ?_
  obtain ⟨_, b7, -⟩ := I0.1 _ _ h_o0
  refine mv_callV (kc' := 0) (ks' := 0) (As := []) (st9 := [.ref o0]) d_Reader_markClause_1 lV_Reader_82 b7 rfl (tc_Reader_advance (d := (d + 1)) (x9 := x9) (o0 := o0) h_o0 I0.start) rfl (Nat.le_of_ble_eq_true rfl) (Nat.le_of_ble_eq_true rfl) (Nat.le_of_ble_eq_true rfl) (hst := rfl) (fun b1r M2 n3 b1 => ?_)
  obtain ⟨T4, J5, rfl⟩ := b1
  have I6 := I0.call J5 (tm_sub (by decide)) (Or.inl rfl)
  have t8 := J5.up h_o0
  have t9 := J5.up h_o1
  refine mv_aload_n d_Reader_markClause_4 rfl rfl ?_
  refine mv_iconst (v := 0) d_Reader_markClause_5 (by decide) ?_
  refine mv_bipush (v := 7) d_Reader_markClause_6 (by decide) ?_
  obtain ⟨_, b16, -⟩ := I6.1 _ _ t8
  refine mv_callV (kc' := 0) (ks' := 0) (As := [.int 0, .int 7]) (st9 := [.int 7, .int 0, .ref o0]) d_Reader_markClause_8 lV_Reader_107 b16 rfl (tc_Reader_numeral (d := d) (x9 := x9) (o0 := o0) (x1 := 0) (x2 := 7) t8 I6.start) rfl (Nat.le_of_ble_eq_true rfl) (Nat.le_of_ble_eq_true rfl) (Nat.le_of_ble_eq_true rfl) (hst := rfl) (fun b10r M11 n12 b10 => ?_)
  obtain ⟨T13, J14, v17, rfl, b18, b19⟩ := b10
  have I15 := I6.call J14 (tm_sub (by decide)) (Or.inl rfl)
  have t20 := J14.up t8
  have t21 := J14.up t9
  have := mz_hi v17
  refine mv_if_neZ (tgt := 16) (a := v17.toInt) d_Reader_markClause_11 (by decide) rfl (fun b22 => ?_) (fun b22 => ?_)
  · refine mv_aload_n d_Reader_markClause_16 rfl rfl ?_
    refine mv_dup d_Reader_markClause_17 rfl ?_
    obtain ⟨v24, q23⟩ := tm_atI I15 t21 (k := 4) rfl
    refine tr_getK q23 d_Reader_markClause_18 f_Reader_163_6 ?_
    refine mv_iconst (v := 1) d_Reader_markClause_21 (by decide) ?_
    refine mv_aload_n d_Reader_markClause_22 rfl rfl ?_
    obtain ⟨v26, q25⟩ := tm_atI I15 t20 (k := 14) rfl
    refine tr_getK q25 d_Reader_markClause_23 f_Reader_111_9 ?_
    refine mv_ishl d_Reader_markClause_26 ?_
    refine mv_ior d_Reader_markClause_27 ?_
    refine tr_putK tm_okF I15 t21 (k := 4) rfl ⟨_, rfl⟩ (Or.inl (by decide)) d_Reader_markClause_28 p_Reader_163_6 rfl rfl (fun M27 I28 q29 K30 => ?_)
    refine mv_iconst (v := 0) d_Reader_markClause_31 (by decide) ?_
    refine mv_istore_n (lv' := [(2, .int 0), (0, .ref o0), (1, .ref o1)]) d_Reader_markClause_32 rfl (by decide) rfl ?_
    have L33_31 : ∀ (k : Nat) (i2_31 : Int32) (T_31 : tm_H) (M_31 : mj_M) (n_31 : Nat), tm_I tm_FT (tm_in w_Reader_markClause) x9 T0 M0 n0 T_31 M_31 n_31 → T_31 o0 = some (0, 9, 0) → T_31 o1 = some (0, 6, 0) → 0 ≤ i2_31.toInt → 2147483647 - i2_31.toInt < (k : Int) → mj_V g l kY_Reader_markClause (d + 2) 33 [(2, .int i2_31), (0, .ref o0), (1, .ref o1)] [] M_31 n_31 0 0 (tm_Q tm_FT (tm_in w_Reader_markClause) x9 T0 M0 n0 (fun r _ _ => ∃ v : Int32, r = some (.int v) ∧ 0 ≤ v.toInt ∧ v.toInt ≤ 1)) := by
      intro k31
      induction k31 with
      | zero =>
        intro i2_31 T_31 M_31 n_31 I_31 h_q0_31 h_q1_31 iv0_31 hk31
        have := mz_hi i2_31
        omega
      | succ k31 ih31 =>
        intro i2_31 T_31 M_31 n_31 I_31 h_q0_31 h_q1_31 iv0_31 hk31
        refine mv_iload_n d_Reader_markClause_33 rfl rfl ?_
        refine mv_sipush (v := 400) d_Reader_markClause_34 (by decide) ?_
        have := mz_hi i2_31
        refine mv_icmp_geZ (tgt := 81) (a := i2_31.toInt) (b := 400) d_Reader_markClause_37 (by decide) rfl (by decide) (fun b32 => ?_) (fun b32 => ?_)
        · refine mv_iconst (v := 1) d_Reader_markClause_81 (by decide) ?_
          exact mv_iret d_Reader_markClause_82 rfl (by decide) ⟨_, I_31, _, rfl, by decide, by decide⟩
        · refine mv_aload_n d_Reader_markClause_40 rfl rfl ?_
          obtain ⟨v34, q33⟩ := tm_atI I_31 h_q0_31 (k := 10) rfl
          refine tr_getK q33 d_Reader_markClause_41 f_Reader_41_9 ?_
          refine mv_iconst (v := 2) d_Reader_markClause_44 (by decide) ?_
          have := mz_hi v34
          refine mv_icmp_neZ (tgt := 81) (a := v34.toInt) (b := 2) d_Reader_markClause_45 (by decide) rfl (by decide) (fun b35 => ?_) (fun b35 => ?_)
          · refine mv_iconst (v := 1) d_Reader_markClause_81 (by decide) ?_
            exact mv_iret d_Reader_markClause_82 rfl (by decide) ⟨_, I_31, _, rfl, by decide, by decide⟩
          · refine mv_aload_n d_Reader_markClause_48 rfl rfl ?_
            refine mv_iconst (v := 0) d_Reader_markClause_49 (by decide) ?_
            refine mv_bipush (v := 7) d_Reader_markClause_50 (by decide) ?_
            obtain ⟨_, b42, -⟩ := I_31.1 _ _ h_q0_31
            refine mv_callV (kc' := 0) (ks' := 0) (As := [.int 0, .int 7]) (st9 := [.int 7, .int 0, .ref o0]) d_Reader_markClause_52 lV_Reader_107 b42 rfl (tc_Reader_numeral (d := d) (x9 := x9) (o0 := o0) (x1 := 0) (x2 := 7) h_q0_31 I_31.start) rfl (Nat.le_of_ble_eq_true rfl) (Nat.le_of_ble_eq_true rfl) (Nat.le_of_ble_eq_true rfl) (hst := rfl) (fun b36r M37 n38 b36 => ?_)
            obtain ⟨T39, J40, v43, rfl, b44, b45⟩ := b36
            have I41 := I_31.call J40 (tm_sub (by decide)) (Or.inl rfl)
            have t46 := J40.up h_q0_31
            have t47 := J40.up h_q1_31
            have := mz_hi v43
            refine mv_if_neZ (tgt := 60) (a := v43.toInt) d_Reader_markClause_55 (by decide) rfl (fun b48 => ?_) (fun b48 => ?_)
            · refine mv_aload_n d_Reader_markClause_60 rfl rfl ?_
              refine mv_dup d_Reader_markClause_61 rfl ?_
              obtain ⟨v50, q49⟩ := tm_atI I41 t47 (k := 4) rfl
              refine tr_getK q49 d_Reader_markClause_62 f_Reader_163_6 ?_
              refine mv_iconst (v := 1) d_Reader_markClause_65 (by decide) ?_
              refine mv_aload_n d_Reader_markClause_66 rfl rfl ?_
              obtain ⟨v52, q51⟩ := tm_atI I41 t46 (k := 14) rfl
              refine tr_getK q51 d_Reader_markClause_67 f_Reader_111_9 ?_
              refine mv_ishl d_Reader_markClause_70 ?_
              refine mv_ior d_Reader_markClause_71 ?_
              refine tr_putK tm_okF I41 t47 (k := 4) rfl ⟨_, rfl⟩ (Or.inl (by decide)) d_Reader_markClause_72 p_Reader_163_6 rfl rfl (fun M53 I54 q55 K56 => ?_)
              refine mv_iinc (v := (i2_31 + 1)) (lv' := [(2, .int (i2_31 + 1)), (0, .ref o0), (1, .ref o1)]) d_Reader_markClause_75 rfl rfl (by decide) rfl ?_
              refine mv_goto (tgt := 33) d_Reader_markClause_78 (by decide) ?_
              have b57 : (i2_31 + 1).toInt = i2_31.toInt + 1 := mz_addn 1 1 (by decide) (by have := mz_lo i2_31; omega) (by have := mz_hi i2_31; omega)
              exact (ih31 (i2_31 + 1) T39 M53 n38 I54 t46 t47 (by first | omega | decide) (by omega))
            · refine mv_iconst (v := 0) d_Reader_markClause_58 (by decide) ?_
              exact mv_iret d_Reader_markClause_59 rfl (by decide) ⟨_, I41, _, rfl, by decide, by decide⟩
    exact mv_less (Nat.zero_le _) (Nat.zero_le _) (L33_31 4294967296 0 T13 M27 n12 I28 t20 t21 (by first | omega | decide) (by show (2147483647 - (0 : Int) : Int) < _; decide))
  · refine mv_iconst (v := 0) d_Reader_markClause_14 (by decide) ?_
    exact mv_iret d_Reader_markClause_15 rfl (by decide) ⟨_, I15, _, rfl, by decide, by decide⟩
theorem lV_Reader_156 : mj_lV "TrustDesk$Reader" 156 kY_Reader_markClause 1 := ⟨⟨(mj_in1 (List.mem_of_getElem? (i := 805) (by decide +kernel)) rfl), (mj_in1 (List.mem_of_getElem? (i := 3) (by decide +kernel)) rfl), (mj_in1 (List.mem_of_getElem? (i := 808) (by decide +kernel)) rfl), by decide, rfl, by decide⟩, (mj_in1 (List.mem_of_getElem? (i := 807) (by decide +kernel)) rfl), (mj_in (List.mem_append_left _ (List.mem_of_getElem? (i := 38) (by decide +kernel))) rfl)⟩
theorem d_Reader_clause_115 : decode kY_Reader_clause.2.1 115 = .ok (.ifCond .eq 14, 3) := by decide +kernel
theorem d_Reader_clause_118 : decode kY_Reader_clause.2.1 118 = .ok (.goto 13, 3) := by decide +kernel
theorem d_Reader_clause_49 : decode kY_Reader_clause.2.1 49 = .ok (.aload_n 1, 1) := by decide +kernel
theorem d_Reader_clause_50 : decode kY_Reader_clause.2.1 50 = .ok (.getfield 136, 3) := by decide +kernel
theorem f_Reader_136_6 : mj_fl "TrustDesk$Reader" 136 6 11 := ⟨kR_Fund, kF_Fund, 15, "TrustDesk$Fund", rfl, kg_6, by decide, (mj_in1 (List.mem_of_getElem? (i := 689) (by decide +kernel)) rfl), Or.inl rfl⟩
theorem d_Reader_clause_53 : decode kY_Reader_clause.2.1 53 = .ok (.invokevirtual 142, 3) := by decide +kernel
theorem lV_Reader_142 : mj_lV "TrustDesk$Reader" 142 kY_ArrayList_size 0 := ⟨⟨(mj_in1 (List.mem_of_getElem? (i := 734) (by decide +kernel)) rfl), (mj_in1 (List.mem_of_getElem? (i := 9) (by decide +kernel)) rfl), (mj_in1 (List.mem_of_getElem? (i := 356) (by decide +kernel)) rfl), by decide, rfl, by decide⟩, (mj_in1 (List.mem_of_getElem? (i := 354) (by decide +kernel)) rfl), (mj_in1 (List.mem_of_getElem? (i := 355) (by decide +kernel)) rfl)⟩
theorem d_Reader_clause_56 : decode kY_Reader_clause.2.1 56 = .ok (.bipush 6, 2) := by decide +kernel
theorem d_Reader_clause_58 : decode kY_Reader_clause.2.1 58 = .ok (.if_icmp .lt 9, 3) := by decide +kernel
theorem d_Reader_clause_71 : decode kY_Reader_clause.2.1 71 = .ok (.aload_n 0, 1) := by decide +kernel
theorem d_Reader_clause_72 : decode kY_Reader_clause.2.1 72 = .ok (.aload_n 1, 1) := by decide +kernel
theorem d_Reader_clause_73 : decode kY_Reader_clause.2.1 73 = .ok (.invokevirtual 59, 3) := by decide +kernel
abbrev kY_Reader_endText : mj_Y := (⟨"TrustDesk$Reader", "endText", "(LTrustDesk$Fund;)LTrustDesk$EndText;"⟩, prog_10_method_13_code, 7, (Option.some (Jvm.ClassFile.FieldType.object "TrustDesk$EndText")))
theorem d_Reader_endText_0 : decode kY_Reader_endText.2.1 0 = .ok (.aload_n 0, 1) := by decide +kernel
theorem d_Reader_endText_1 : decode kY_Reader_endText.2.1 1 = .ok (.invokevirtual 82, 3) := by decide +kernel
theorem d_Reader_endText_4 : decode kY_Reader_endText.2.1 4 = .ok (.aload_n 0, 1) := by decide +kernel
theorem d_Reader_endText_5 : decode kY_Reader_endText.2.1 5 = .ok (.getfield 172, 3) := by decide +kernel
theorem f_Reader_172_9 : mj_fl "TrustDesk$Reader" 172 9 12 := ⟨kR_Reader, kF_Reader, 19, "TrustDesk$Reader", rfl, kg_9, by decide, (mj_in1 (List.mem_of_getElem? (i := 84) (by decide +kernel)) rfl), Or.inl rfl⟩
theorem d_Reader_endText_8 : decode kY_Reader_endText.2.1 8 = .ok (.aload_n 0, 1) := by decide +kernel
theorem d_Reader_endText_9 : decode kY_Reader_endText.2.1 9 = .ok (.getfield 175, 3) := by decide +kernel
theorem d_Reader_endText_12 : decode kY_Reader_endText.2.1 12 = .ok (.isub, 1) := by decide +kernel
theorem d_Reader_endText_13 : decode kY_Reader_endText.2.1 13 = .ok (.istore_n 2, 1) := by decide +kernel
theorem d_Reader_endText_14 : decode kY_Reader_endText.2.1 14 = .ok (.aload_n 0, 1) := by decide +kernel
theorem d_Reader_endText_15 : decode kY_Reader_endText.2.1 15 = .ok (.getfield 41, 3) := by decide +kernel
theorem d_Reader_endText_18 : decode kY_Reader_endText.2.1 18 = .ok (.iconst 1, 1) := by decide +kernel
theorem d_Reader_endText_19 : decode kY_Reader_endText.2.1 19 = .ok (.if_icmp .ne 9, 3) := by decide +kernel
theorem d_Reader_endText_28 : decode kY_Reader_endText.2.1 28 = .ok (.aload_n 0, 1) := by decide +kernel
theorem d_Reader_endText_29 : decode kY_Reader_endText.2.1 29 = .ok (.iconst 1, 1) := by decide +kernel
theorem d_Reader_endText_30 : decode kY_Reader_endText.2.1 30 = .ok (.invokevirtual 56, 3) := by decide +kernel
theorem d_Reader_endText_33 : decode kY_Reader_endText.2.1 33 = .ok (.pop, 1) := by decide +kernel
theorem d_Reader_endText_34 : decode kY_Reader_endText.2.1 34 = .ok (.aconst_null, 1) := by decide +kernel
theorem d_Reader_endText_35 : decode kY_Reader_endText.2.1 35 = .ok (.areturn, 1) := by decide +kernel
theorem d_Reader_endText_22 : decode kY_Reader_endText.2.1 22 = .ok (.iload_n 2, 1) := by decide +kernel
theorem d_Reader_endText_23 : decode kY_Reader_endText.2.1 23 = .ok (.bipush 8, 2) := by decide +kernel
theorem d_Reader_endText_25 : decode kY_Reader_endText.2.1 25 = .ok (.if_icmp .le 11, 3) := by decide +kernel
theorem d_Reader_endText_36 : decode kY_Reader_endText.2.1 36 = .ok (.aload_n 0, 1) := by decide +kernel
theorem d_Reader_endText_37 : decode kY_Reader_endText.2.1 37 = .ok (.invokevirtual 178, 3) := by decide +kernel
abbrev kY_Reader_wordAsNumber : mj_Y := (⟨"TrustDesk$Reader", "wordAsNumber", "()J"⟩, prog_10_method_14_code, 4, (Option.some Jvm.ClassFile.FieldType.long))
theorem d_Reader_wordAsNumber_0 : decode kY_Reader_wordAsNumber.2.1 0 = .ok (.lconst 0, 1) := by decide +kernel
theorem d_Reader_wordAsNumber_1 : decode kY_Reader_wordAsNumber.2.1 1 = .ok (.lstore_n 1, 1) := by decide +kernel
theorem d_Reader_wordAsNumber_2 : decode kY_Reader_wordAsNumber.2.1 2 = .ok (.aload_n 0, 1) := by decide +kernel
theorem d_Reader_wordAsNumber_3 : decode kY_Reader_wordAsNumber.2.1 3 = .ok (.getfield 175, 3) := by decide +kernel
theorem d_Reader_wordAsNumber_6 : decode kY_Reader_wordAsNumber.2.1 6 = .ok (.istore_n 3, 1) := by decide +kernel
theorem d_Reader_wordAsNumber_7 : decode kY_Reader_wordAsNumber.2.1 7 = .ok (.iload_n 3, 1) := by decide +kernel
theorem d_Reader_wordAsNumber_8 : decode kY_Reader_wordAsNumber.2.1 8 = .ok (.ifCond .lt 44, 3) := by decide +kernel
theorem d_Reader_wordAsNumber_52 : decode kY_Reader_wordAsNumber.2.1 52 = .ok (.lload_n 1, 1) := by decide +kernel
theorem d_Reader_wordAsNumber_53 : decode kY_Reader_wordAsNumber.2.1 53 = .ok (.lreturn, 1) := by decide +kernel
theorem d_Reader_wordAsNumber_11 : decode kY_Reader_wordAsNumber.2.1 11 = .ok (.iload_n 3, 1) := by decide +kernel
theorem d_Reader_wordAsNumber_12 : decode kY_Reader_wordAsNumber.2.1 12 = .ok (.aload_n 0, 1) := by decide +kernel
theorem d_Reader_wordAsNumber_13 : decode kY_Reader_wordAsNumber.2.1 13 = .ok (.getfield 172, 3) := by decide +kernel
theorem d_Reader_wordAsNumber_16 : decode kY_Reader_wordAsNumber.2.1 16 = .ok (.if_icmp .ge 36, 3) := by decide +kernel
theorem d_Reader_wordAsNumber_19 : decode kY_Reader_wordAsNumber.2.1 19 = .ok (.iload_n 3, 1) := by decide +kernel
theorem d_Reader_wordAsNumber_20 : decode kY_Reader_wordAsNumber.2.1 20 = .ok (.sipush 400, 3) := by decide +kernel
theorem d_Reader_wordAsNumber_23 : decode kY_Reader_wordAsNumber.2.1 23 = .ok (.if_icmp .ge 29, 3) := by decide +kernel
theorem d_Reader_wordAsNumber_26 : decode kY_Reader_wordAsNumber.2.1 26 = .ok (.lload_n 1, 1) := by decide +kernel
theorem d_Reader_wordAsNumber_27 : decode kY_Reader_wordAsNumber.2.1 27 = .ok (.ldc2_w 194, 3) := by decide +kernel
theorem k_Reader_194 : Cond.constantLong "TrustDesk$Reader" 194 32 ∈ mj_T := (mj_in1 (List.mem_of_getElem? (i := 743) (by decide +kernel)) rfl)
theorem d_Reader_wordAsNumber_30 : decode kY_Reader_wordAsNumber.2.1 30 = .ok (.lmul, 1) := by decide +kernel
theorem d_Reader_wordAsNumber_31 : decode kY_Reader_wordAsNumber.2.1 31 = .ok (.aload_n 0, 1) := by decide +kernel
theorem d_Reader_wordAsNumber_32 : decode kY_Reader_wordAsNumber.2.1 32 = .ok (.getfield 15, 3) := by decide +kernel
theorem d_Reader_wordAsNumber_35 : decode kY_Reader_wordAsNumber.2.1 35 = .ok (.iload_n 3, 1) := by decide +kernel
theorem d_Reader_wordAsNumber_36 : decode kY_Reader_wordAsNumber.2.1 36 = .ok (.iaload, 1) := by decide +kernel
theorem d_Reader_wordAsNumber_37 : decode kY_Reader_wordAsNumber.2.1 37 = .ok (.i2l, 1) := by decide +kernel
theorem d_Reader_wordAsNumber_38 : decode kY_Reader_wordAsNumber.2.1 38 = .ok (.ladd, 1) := by decide +kernel
theorem d_Reader_wordAsNumber_39 : decode kY_Reader_wordAsNumber.2.1 39 = .ok (.ldc2_w 196, 3) := by decide +kernel
theorem k_Reader_196 : Cond.constantLong "TrustDesk$Reader" 196 97 ∈ mj_T := (mj_in1 (List.mem_of_getElem? (i := 744) (by decide +kernel)) rfl)
theorem d_Reader_wordAsNumber_42 : decode kY_Reader_wordAsNumber.2.1 42 = .ok (.lsub, 1) := by decide +kernel
theorem d_Reader_wordAsNumber_43 : decode kY_Reader_wordAsNumber.2.1 43 = .ok (.lconst 1, 1) := by decide +kernel
theorem d_Reader_wordAsNumber_44 : decode kY_Reader_wordAsNumber.2.1 44 = .ok (.ladd, 1) := by decide +kernel
theorem d_Reader_wordAsNumber_45 : decode kY_Reader_wordAsNumber.2.1 45 = .ok (.lstore_n 1, 1) := by decide +kernel
theorem d_Reader_wordAsNumber_46 : decode kY_Reader_wordAsNumber.2.1 46 = .ok (.iinc 3 1, 3) := by decide +kernel
theorem d_Reader_wordAsNumber_49 : decode kY_Reader_wordAsNumber.2.1 49 = .ok (.goto (-42), 3) := by decide +kernel
def w_Reader_wordAsNumber : List Nat := []
theorem tc_Reader_wordAsNumber {g : mj_G} {l : Launch} {d : Nat} {T0 : tm_H} {M0 : mj_M} {n0 x9 : Nat} {o0 : Nat} (h_o0 : T0 o0 = some (0, 9, 0)) (I0 : tm_I tm_FT (tm_in w_Reader_wordAsNumber) x9 T0 M0 n0 T0 M0 n0) : mj_Met g l kY_Reader_wordAsNumber d [.ref o0] M0 n0 0 0 (tm_Q tm_FT (tm_in w_Reader_wordAsNumber) x9 T0 M0 n0 (fun r _ _ => ∃ v : Int64, r = some (.long v))) := by
  refine mj_enter (by decide) (Nat.le_of_ble_eq_true rfl) ?_
  refine mv_lconst (v := 0) d_Reader_wordAsNumber_0 (by decide) ?_
  refine mv_lstore_n (lv' := [(1, .long 0), (0, .ref o0)]) d_Reader_wordAsNumber_1 rfl (by decide) rfl ?_
  refine mv_aload_n d_Reader_wordAsNumber_2 rfl rfl ?_
  obtain ⟨v2, q1⟩ := tm_atI I0 h_o0 (k := 11) rfl
  refine tr_getK q1 d_Reader_wordAsNumber_3 f_Reader_175_9 ?_
  refine mv_istore_n (lv' := [(3, .int v2), (1, .long 0), (0, .ref o0)]) d_Reader_wordAsNumber_6 rfl (by decide) rfl ?_
  have L7_3 : ∀ (k : Nat) (i3_3 : Int32) (l1_3 : Int64) (T_3 : tm_H) (M_3 : mj_M) (n_3 : Nat), tm_I tm_FT (tm_in w_Reader_wordAsNumber) x9 T0 M0 n0 T_3 M_3 n_3 → T_3 o0 = some (0, 9, 0) → 2147483647 - i3_3.toInt < (k : Int) → mj_V g l kY_Reader_wordAsNumber d 7 [(3, .int i3_3), (1, .long l1_3), (0, .ref o0)] [] M_3 n_3 0 0 (tm_Q tm_FT (tm_in w_Reader_wordAsNumber) x9 T0 M0 n0 (fun r _ _ => ∃ v : Int64, r = some (.long v))) := by
    intro k3
    induction k3 with
    | zero =>
      intro i3_3 l1_3 T_3 M_3 n_3 I_3 h_q0_3 hk3
      have := mz_hi i3_3
      omega
    | succ k3 ih3 =>
      intro i3_3 l1_3 T_3 M_3 n_3 I_3 h_q0_3 hk3
      refine mv_iload_n d_Reader_wordAsNumber_7 rfl rfl ?_
      have := mz_hi i3_3
      refine mv_if_ltZ (tgt := 52) (a := i3_3.toInt) d_Reader_wordAsNumber_8 (by decide) rfl (fun b4 => ?_) (fun b4 => ?_)
      · refine mv_lload_n d_Reader_wordAsNumber_52 rfl rfl ?_
        exact mv_lret d_Reader_wordAsNumber_53 rfl ⟨_, I_3, _, rfl⟩
      · refine mv_iload_n d_Reader_wordAsNumber_11 rfl rfl ?_
        refine mv_aload_n d_Reader_wordAsNumber_12 rfl rfl ?_
        obtain ⟨v6, q5⟩ := tm_atI I_3 h_q0_3 (k := 12) rfl
        refine tr_getK q5 d_Reader_wordAsNumber_13 f_Reader_172_9 ?_
        have := mz_hi i3_3
        have := mz_hi v6
        refine mv_icmp_geZ (tgt := 52) (a := i3_3.toInt) (b := v6.toInt) d_Reader_wordAsNumber_16 (by decide) rfl rfl (fun b7 => ?_) (fun b7 => ?_)
        · refine mv_lload_n d_Reader_wordAsNumber_52 rfl rfl ?_
          exact mv_lret d_Reader_wordAsNumber_53 rfl ⟨_, I_3, _, rfl⟩
        · refine mv_iload_n d_Reader_wordAsNumber_19 rfl rfl ?_
          refine mv_sipush (v := 400) d_Reader_wordAsNumber_20 (by decide) ?_
          have := mz_hi i3_3
          refine mv_icmp_geZ (tgt := 52) (a := i3_3.toInt) (b := 400) d_Reader_wordAsNumber_23 (by decide) rfl (by decide) (fun b8 => ?_) (fun b8 => ?_)
          · refine mv_lload_n d_Reader_wordAsNumber_52 rfl rfl ?_
            exact mv_lret d_Reader_wordAsNumber_53 rfl ⟨_, I_3, _, rfl⟩
          · refine mv_lload_n d_Reader_wordAsNumber_26 rfl rfl ?_
            refine mv_ldc2 d_Reader_wordAsNumber_27 k_Reader_194 ?_
            refine mv_lmul d_Reader_wordAsNumber_30 ?_
            refine mv_aload_n d_Reader_wordAsNumber_31 rfl rfl ?_
            obtain ⟨a10, q9, t_a10⟩ := tm_atR I_3 h_q0_3 (k := 3) rfl
            refine tr_getK q9 d_Reader_wordAsNumber_32 f_Reader_15_9 ?_
            refine mv_iload_n d_Reader_wordAsNumber_35 rfl rfl ?_
            refine tr_iald I_3 t_a10 (by decide) d_Reader_wordAsNumber_36 (vp_in_iff.mpr (by omega)) (fun v11 => ?_)
            refine mv_i2l (v := v11.toInt64) d_Reader_wordAsNumber_37 rfl ?_
            refine mv_ladd d_Reader_wordAsNumber_38 ?_
            refine mv_ldc2 d_Reader_wordAsNumber_39 k_Reader_196 ?_
            refine mv_lsub d_Reader_wordAsNumber_42 ?_
            refine mv_lconst (v := 1) d_Reader_wordAsNumber_43 (by decide) ?_
            refine mv_ladd d_Reader_wordAsNumber_44 ?_
            refine mv_lstore_n (lv' := [(1, .long ((((l1_3 * 32) + v11.toInt64) - 97) + 1)), (3, .int i3_3), (0, .ref o0)]) d_Reader_wordAsNumber_45 rfl (by decide) rfl ?_
            refine mv_iinc (v := (i3_3 + 1)) (lv' := [(3, .int (i3_3 + 1)), (1, .long ((((l1_3 * 32) + v11.toInt64) - 97) + 1)), (0, .ref o0)]) d_Reader_wordAsNumber_46 rfl rfl (by decide) rfl ?_
            refine mv_goto (tgt := 7) d_Reader_wordAsNumber_49 (by decide) ?_
            have b12 : (i3_3 + 1).toInt = i3_3.toInt + 1 := mz_addn 1 1 (by decide) (by have := mz_lo i3_3; omega) (by have := mz_hi i3_3; omega)
            exact (ih3 (i3_3 + 1) ((((l1_3 * 32) + v11.toInt64) - 97) + 1) T_3 M_3 n_3 I_3 h_q0_3 (by omega))
  exact mv_less (Nat.zero_le _) (Nat.zero_le _) (L7_3 4294967296 v2 0 T0 M0 n0 I0 h_o0 (by have := mz_lo v2; omega))
theorem lV_Reader_178 : mj_lV "TrustDesk$Reader" 178 kY_Reader_wordAsNumber 0 := ⟨⟨(mj_in1 (List.mem_of_getElem? (i := 739) (by decide +kernel)) rfl), (mj_in1 (List.mem_of_getElem? (i := 3) (by decide +kernel)) rfl), (mj_in1 (List.mem_of_getElem? (i := 742) (by decide +kernel)) rfl), by decide, rfl, by decide⟩, (mj_in1 (List.mem_of_getElem? (i := 741) (by decide +kernel)) rfl), (mj_in (List.mem_append_left _ (List.mem_of_getElem? (i := 37) (by decide +kernel))) rfl)⟩
theorem d_Reader_endText_40 : decode kY_Reader_endText.2.1 40 = .ok (.lstore_n 3, 1) := by decide +kernel
theorem d_Reader_endText_41 : decode kY_Reader_endText.2.1 41 = .ok (.aload_n 1, 1) := by decide +kernel
theorem d_Reader_endText_42 : decode kY_Reader_endText.2.1 42 = .ok (.ifnull 19, 3) := by decide +kernel
theorem d_Reader_endText_45 : decode kY_Reader_endText.2.1 45 = .ok (.aload_n 1, 1) := by decide +kernel
theorem d_Reader_endText_46 : decode kY_Reader_endText.2.1 46 = .ok (.lload_n 3, 1) := by decide +kernel
theorem d_Reader_endText_47 : decode kY_Reader_endText.2.1 47 = .ok (.invokevirtual 182, 3) := by decide +kernel
abbrev kY_Fund_hasEnd : mj_Y := (⟨"TrustDesk$Fund", "hasEnd", "(J)Z"⟩, prog_7_method_7_code, 4, (Option.some Jvm.ClassFile.FieldType.boolean))
theorem d_Fund_hasEnd_0 : decode kY_Fund_hasEnd.2.1 0 = .ok (.iconst 0, 1) := by decide +kernel
theorem d_Fund_hasEnd_1 : decode kY_Fund_hasEnd.2.1 1 = .ok (.istore_n 3, 1) := by decide +kernel
theorem d_Fund_hasEnd_2 : decode kY_Fund_hasEnd.2.1 2 = .ok (.iload_n 3, 1) := by decide +kernel
theorem d_Fund_hasEnd_3 : decode kY_Fund_hasEnd.2.1 3 = .ok (.aload_n 0, 1) := by decide +kernel
theorem d_Fund_hasEnd_4 : decode kY_Fund_hasEnd.2.1 4 = .ok (.getfield 24, 3) := by decide +kernel
theorem d_Fund_hasEnd_7 : decode kY_Fund_hasEnd.2.1 7 = .ok (.invokevirtual 61, 3) := by decide +kernel
theorem d_Fund_hasEnd_10 : decode kY_Fund_hasEnd.2.1 10 = .ok (.if_icmp .ge 33, 3) := by decide +kernel
theorem d_Fund_hasEnd_43 : decode kY_Fund_hasEnd.2.1 43 = .ok (.iconst 0, 1) := by decide +kernel
theorem d_Fund_hasEnd_44 : decode kY_Fund_hasEnd.2.1 44 = .ok (.ireturn, 1) := by decide +kernel
theorem d_Fund_hasEnd_13 : decode kY_Fund_hasEnd.2.1 13 = .ok (.aload_n 0, 1) := by decide +kernel
theorem d_Fund_hasEnd_14 : decode kY_Fund_hasEnd.2.1 14 = .ok (.getfield 24, 3) := by decide +kernel
theorem d_Fund_hasEnd_17 : decode kY_Fund_hasEnd.2.1 17 = .ok (.iload_n 3, 1) := by decide +kernel
theorem d_Fund_hasEnd_18 : decode kY_Fund_hasEnd.2.1 18 = .ok (.invokevirtual 65, 3) := by decide +kernel
theorem d_Fund_hasEnd_21 : decode kY_Fund_hasEnd.2.1 21 = .ok (.checkcast 69, 3) := by decide +kernel
theorem d_Fund_hasEnd_24 : decode kY_Fund_hasEnd.2.1 24 = .ok (.getfield 71, 3) := by decide +kernel
theorem f_Fund_71_3 : mj_fl "TrustDesk$Fund" 71 3 0 := ⟨kR_End, kF_End, 4, "TrustDesk$End", rfl, kg_3, by decide, (mj_in1 (List.mem_of_getElem? (i := 786) (by decide +kernel)) rfl), Or.inl rfl⟩
theorem d_Fund_hasEnd_27 : decode kY_Fund_hasEnd.2.1 27 = .ok (.getfield 75, 3) := by decide +kernel
theorem f_Fund_75_4 : mj_fl "TrustDesk$Fund" 75 4 0 := ⟨kR_EndText, kF_EndText, 5, "TrustDesk$EndText", rfl, kg_4, by decide, (mj_in1 (List.mem_of_getElem? (i := 759) (by decide +kernel)) rfl), Or.inl rfl⟩
theorem d_Fund_hasEnd_30 : decode kY_Fund_hasEnd.2.1 30 = .ok (.lload_n 1, 1) := by decide +kernel
theorem d_Fund_hasEnd_31 : decode kY_Fund_hasEnd.2.1 31 = .ok (.lcmp, 1) := by decide +kernel
theorem d_Fund_hasEnd_32 : decode kY_Fund_hasEnd.2.1 32 = .ok (.ifCond .ne 5, 3) := by decide +kernel
theorem d_Fund_hasEnd_37 : decode kY_Fund_hasEnd.2.1 37 = .ok (.iinc 3 1, 3) := by decide +kernel
theorem d_Fund_hasEnd_40 : decode kY_Fund_hasEnd.2.1 40 = .ok (.goto (-38), 3) := by decide +kernel
theorem d_Fund_hasEnd_35 : decode kY_Fund_hasEnd.2.1 35 = .ok (.iconst 1, 1) := by decide +kernel
theorem d_Fund_hasEnd_36 : decode kY_Fund_hasEnd.2.1 36 = .ok (.ireturn, 1) := by decide +kernel
def w_Fund_hasEnd : List Nat := []
theorem tc_Fund_hasEnd {g : mj_G} {l : Launch} {d : Nat} {T0 : tm_H} {M0 : mj_M} {n0 x9 : Nat} {o0 : Nat} {x1 : Int64} (h_o0 : T0 o0 = some (0, 6, 0)) (I0 : tm_I tm_FT (tm_in w_Fund_hasEnd) x9 T0 M0 n0 T0 M0 n0) : mj_Met g l kY_Fund_hasEnd (d + 3) [.ref o0, .long x1] M0 n0 0 0 (tm_Q tm_FT (tm_in w_Fund_hasEnd) x9 T0 M0 n0 (fun r _ _ => ∃ v : Int32, r = some (.int v) ∧ 0 ≤ v.toInt ∧ v.toInt ≤ 1)) := by
  refine mj_enter (by decide) (Nat.le_of_ble_eq_true rfl) ?_
  refine mv_iconst (v := 0) d_Fund_hasEnd_0 (by decide) ?_
  refine mv_istore_n (lv' := [(3, .int 0), (0, .ref o0), (1, .long x1)]) d_Fund_hasEnd_1 rfl (by decide) rfl ?_
  have L2_1 : ∀ (k : Nat) (i3_1 : Int32) (T_1 : tm_H) (M_1 : mj_M) (n_1 : Nat), tm_I tm_FT (tm_in w_Fund_hasEnd) x9 T0 M0 n0 T_1 M_1 n_1 → T_1 o0 = some (0, 6, 0) → 0 ≤ i3_1.toInt → 2147483647 - i3_1.toInt < (k : Int) → mj_V g l kY_Fund_hasEnd (d + 3) 2 [(3, .int i3_1), (0, .ref o0), (1, .long x1)] [] M_1 n_1 0 0 (tm_Q tm_FT (tm_in w_Fund_hasEnd) x9 T0 M0 n0 (fun r _ _ => ∃ v : Int32, r = some (.int v) ∧ 0 ≤ v.toInt ∧ v.toInt ≤ 1)) := by
    intro k1
    induction k1 with
    | zero =>
      intro i3_1 T_1 M_1 n_1 I_1 h_q0_1 iv0_1 hk1
      have := mz_hi i3_1
      omega
    | succ k1 ih1 =>
      intro i3_1 T_1 M_1 n_1 I_1 h_q0_1 iv0_1 hk1
      refine mv_iload_n d_Fund_hasEnd_2 rfl rfl ?_
      refine mv_aload_n d_Fund_hasEnd_3 rfl rfl ?_
      obtain ⟨a3, q2, t_a3⟩ := tm_atO I_1 h_q0_1 (k := 11) rfl
      refine tr_getK q2 d_Fund_hasEnd_4 f_Fund_24_6 ?_
      obtain ⟨m5, n9, e6, N7, f8, h4⟩ := I_1.1 _ _ t_a3
      have := h4.2.1
      have : n9.toInt ≤ 72 := h4.2.2.1
      have q10 : tm_at M_1 a3 0 2 (.int n9) := ⟨_, h4.1, rfl⟩
      refine mv_callV_s (kc' := 0) (ks' := 0) [] [.ref a3, .int i3_1] d_Fund_hasEnd_7 lV_Fund_61 h4.1 rfl (tc_L_size (d := (d + 2)) h4.1) rfl (Nat.le_of_ble_eq_true rfl) (Nat.le_of_ble_eq_true rfl) (Nat.le_of_ble_eq_true rfl) rfl ?_
      have := mz_hi i3_1
      have := mz_hi n9
      refine mv_icmp_geZ (tgt := 43) (a := i3_1.toInt) (b := n9.toInt) d_Fund_hasEnd_10 (by decide) rfl rfl (fun b11 => ?_) (fun b11 => ?_)
      · refine mv_iconst (v := 0) d_Fund_hasEnd_43 (by decide) ?_
        exact mv_iret d_Fund_hasEnd_44 rfl (by decide) ⟨_, I_1, _, rfl, by decide, by decide⟩
      · refine mv_aload_n d_Fund_hasEnd_13 rfl rfl ?_
        refine tr_getK (k := 11) q2 d_Fund_hasEnd_14 f_Fund_24_6 ?_
        refine mv_iload_n d_Fund_hasEnd_17 rfl rfl ?_
        obtain ⟨m13, e14, N15, f16, h12⟩ := tm_lsn I_1 t_a3 q10
        obtain ⟨u17e, u17i, a18, u17f, u17t⟩ := tm_el (i := i3_1) h12 (by omega) (by omega)
        have t_a18 : T_1 a18 = some (0, 3, 0) := u17t
        refine mv_callV_s (kc' := 0) (ks' := 0) [.int i3_1] [.int i3_1, .ref a3] d_Fund_hasEnd_18 lV_Fund_65 h12.1 rfl (tc_L_get (d := d) h12.1 u17e (by omega) (by omega) u17i u17f) rfl (Nat.le_of_ble_eq_true rfl) (Nat.le_of_ble_eq_true rfl) (Nat.le_of_ble_eq_true rfl) rfl ?_
        obtain ⟨_, b19, -⟩ := I_1.1 _ _ t_a18
        refine mv_castS (T9 := kF_End) (N := 4) d_Fund_hasEnd_21 (mj_in1 (List.mem_of_getElem? (i := 751) (by decide +kernel)) rfl) b19 rfl ?_
        obtain ⟨a21, q20, t_a21⟩ := tm_atR I_1 t_a18 (k := 0) rfl
        refine tr_getK q20 d_Fund_hasEnd_24 f_Fund_71_3 ?_
        obtain ⟨v23, q22⟩ := tm_atL I_1 t_a21 (k := 0) rfl
        refine tr_getK q22 d_Fund_hasEnd_27 f_Fund_75_4 ?_
        refine mv_lload_n d_Fund_hasEnd_30 rfl rfl ?_
        refine mv_lneZ (tgt := 37) (a := v23.toInt) (b := x1.toInt) d_Fund_hasEnd_31 d_Fund_hasEnd_32 (by decide) rfl rfl (fun b24 => ?_) (fun b24 => ?_)
        · refine mv_iinc (v := (i3_1 + 1)) (lv' := [(3, .int (i3_1 + 1)), (0, .ref o0), (1, .long x1)]) d_Fund_hasEnd_37 rfl rfl (by decide) rfl ?_
          refine mv_goto (tgt := 2) d_Fund_hasEnd_40 (by decide) ?_
          have b25 : (i3_1 + 1).toInt = i3_1.toInt + 1 := mz_addn 1 1 (by decide) (by have := mz_lo i3_1; omega) (by have := mz_hi i3_1; omega)
          exact (ih1 (i3_1 + 1) T_1 M_1 n_1 I_1 h_q0_1 (by first | omega | decide) (by omega))
        · refine mv_iconst (v := 1) d_Fund_hasEnd_35 (by decide) ?_
          exact mv_iret d_Fund_hasEnd_36 rfl (by decide) ⟨_, I_1, _, rfl, by decide, by decide⟩
  exact mv_less (Nat.zero_le _) (Nat.zero_le _) (L2_1 4294967296 0 T0 M0 n0 I0 h_o0 (by first | omega | decide) (by show (2147483647 - (0 : Int) : Int) < _; decide))
theorem lV_Reader_182 : mj_lV "TrustDesk$Reader" 182 kY_Fund_hasEnd 1 := ⟨⟨(mj_in1 (List.mem_of_getElem? (i := 745) (by decide +kernel)) rfl), (mj_in1 (List.mem_of_getElem? (i := 21) (by decide +kernel)) rfl), (mj_in1 (List.mem_of_getElem? (i := 748) (by decide +kernel)) rfl), by decide, rfl, by decide⟩, (mj_in1 (List.mem_of_getElem? (i := 746) (by decide +kernel)) rfl), (mj_in1 (List.mem_of_getElem? (i := 747) (by decide +kernel)) rfl)⟩
theorem d_Reader_endText_50 : decode kY_Reader_endText.2.1 50 = .ok (.ifCond .eq 11, 3) := by decide +kernel
theorem d_Reader_endText_61 : decode kY_Reader_endText.2.1 61 = .ok (.aload_n 0, 1) := by decide +kernel
theorem d_Reader_endText_62 : decode kY_Reader_endText.2.1 62 = .ok (.invokevirtual 82, 3) := by decide +kernel
theorem d_Reader_endText_65 : decode kY_Reader_endText.2.1 65 = .ok (.aload_n 0, 1) := by decide +kernel
theorem d_Reader_endText_66 : decode kY_Reader_endText.2.1 66 = .ok (.iconst 0, 1) := by decide +kernel
theorem d_Reader_endText_67 : decode kY_Reader_endText.2.1 67 = .ok (.putfield 118, 3) := by decide +kernel
theorem d_Reader_endText_70 : decode kY_Reader_endText.2.1 70 = .ok (.aload_n 0, 1) := by decide +kernel
theorem d_Reader_endText_71 : decode kY_Reader_endText.2.1 71 = .ok (.bipush 27, 2) := by decide +kernel
theorem d_Reader_endText_73 : decode kY_Reader_endText.2.1 73 = .ok (.invokevirtual 121, 3) := by decide +kernel
theorem d_Reader_endText_76 : decode kY_Reader_endText.2.1 76 = .ok (.ifCond .eq 10, 3) := by decide +kernel
theorem d_Reader_endText_86 : decode kY_Reader_endText.2.1 86 = .ok (.aconst_null, 1) := by decide +kernel
theorem d_Reader_endText_87 : decode kY_Reader_endText.2.1 87 = .ok (.areturn, 1) := by decide +kernel
theorem d_Reader_endText_79 : decode kY_Reader_endText.2.1 79 = .ok (.aload_n 0, 1) := by decide +kernel
theorem d_Reader_endText_80 : decode kY_Reader_endText.2.1 80 = .ok (.invokevirtual 186, 3) := by decide +kernel
theorem d_Reader_endText_83 : decode kY_Reader_endText.2.1 83 = .ok (.ifCond .ne 5, 3) := by decide +kernel
theorem d_Reader_endText_88 : decode kY_Reader_endText.2.1 88 = .ok (.aload_n 0, 1) := by decide +kernel
theorem d_Reader_endText_89 : decode kY_Reader_endText.2.1 89 = .ok (.invokevirtual 128, 3) := by decide +kernel
theorem d_Reader_endText_92 : decode kY_Reader_endText.2.1 92 = .ok (.astore 5, 2) := by decide +kernel
theorem d_Reader_endText_94 : decode kY_Reader_endText.2.1 94 = .ok (.aload_n 0, 1) := by decide +kernel
theorem d_Reader_endText_95 : decode kY_Reader_endText.2.1 95 = .ok (.iconst 0, 1) := by decide +kernel
theorem d_Reader_endText_96 : decode kY_Reader_endText.2.1 96 = .ok (.putfield 118, 3) := by decide +kernel
theorem d_Reader_endText_99 : decode kY_Reader_endText.2.1 99 = .ok (.aload_n 0, 1) := by decide +kernel
theorem d_Reader_endText_100 : decode kY_Reader_endText.2.1 100 = .ok (.bipush 28, 2) := by decide +kernel
theorem d_Reader_endText_102 : decode kY_Reader_endText.2.1 102 = .ok (.invokevirtual 121, 3) := by decide +kernel
theorem d_Reader_endText_105 : decode kY_Reader_endText.2.1 105 = .ok (.ifCond .eq 10, 3) := by decide +kernel
theorem d_Reader_endText_115 : decode kY_Reader_endText.2.1 115 = .ok (.aconst_null, 1) := by decide +kernel
theorem d_Reader_endText_116 : decode kY_Reader_endText.2.1 116 = .ok (.areturn, 1) := by decide +kernel
theorem d_Reader_endText_108 : decode kY_Reader_endText.2.1 108 = .ok (.aload_n 0, 1) := by decide +kernel
theorem d_Reader_endText_109 : decode kY_Reader_endText.2.1 109 = .ok (.invokevirtual 124, 3) := by decide +kernel
theorem d_Reader_endText_112 : decode kY_Reader_endText.2.1 112 = .ok (.ifCond .ne 5, 3) := by decide +kernel
theorem d_Reader_endText_117 : decode kY_Reader_endText.2.1 117 = .ok (.aload_n 0, 1) := by decide +kernel
theorem d_Reader_endText_118 : decode kY_Reader_endText.2.1 118 = .ok (.bipush 29, 2) := by decide +kernel
theorem d_Reader_endText_120 : decode kY_Reader_endText.2.1 120 = .ok (.invokevirtual 52, 3) := by decide +kernel
theorem d_Reader_endText_123 : decode kY_Reader_endText.2.1 123 = .ok (.istore 6, 2) := by decide +kernel
theorem d_Reader_endText_125 : decode kY_Reader_endText.2.1 125 = .ok (.iload 6, 2) := by decide +kernel
theorem d_Reader_endText_127 : decode kY_Reader_endText.2.1 127 = .ok (.ifCond .eq 7, 3) := by decide +kernel
theorem d_Reader_endText_134 : decode kY_Reader_endText.2.1 134 = .ok (.new 189, 3) := by decide +kernel
theorem n_Reader_189 : mj_nw "TrustDesk$Reader" 189 4 [.long 0, .int 0, .null, .null, .int 0] := ⟨kR_EndText, kF_EndText, 5, kt_EndText, rfl, kg_4, kto_EndText, (mj_in1 (List.mem_of_getElem? (i := 752) (by decide +kernel)) rfl), (mj_in1 (List.mem_of_getElem? (i := 753) (by decide +kernel)) rfl), (mj_in1 (List.mem_of_getElem? (i := 22) (by decide +kernel)) rfl), by decide +kernel, rfl, fun _ => rfl⟩
theorem d_Reader_endText_137 : decode kY_Reader_endText.2.1 137 = .ok (.dup, 1) := by decide +kernel
theorem d_Reader_endText_138 : decode kY_Reader_endText.2.1 138 = .ok (.lload_n 3, 1) := by decide +kernel
theorem d_Reader_endText_139 : decode kY_Reader_endText.2.1 139 = .ok (.iload_n 2, 1) := by decide +kernel
theorem d_Reader_endText_140 : decode kY_Reader_endText.2.1 140 = .ok (.aload 5, 2) := by decide +kernel
theorem d_Reader_endText_142 : decode kY_Reader_endText.2.1 142 = .ok (.aload_n 0, 1) := by decide +kernel
theorem d_Reader_endText_143 : decode kY_Reader_endText.2.1 143 = .ok (.invokevirtual 128, 3) := by decide +kernel
theorem d_Reader_endText_146 : decode kY_Reader_endText.2.1 146 = .ok (.iload 6, 2) := by decide +kernel
theorem d_Reader_endText_148 : decode kY_Reader_endText.2.1 148 = .ok (.invokespecial 191, 3) := by decide +kernel
abbrev kY_EndText_init : mj_Y := (⟨"TrustDesk$EndText", "<init>", "(JILTrustDesk$Code;LTrustDesk$Code;Z)V"⟩, prog_5_method_1_code, 7, (Option.none : Option Jvm.ClassFile.FieldType))
theorem d_EndText_init_0 : decode kY_EndText_init.2.1 0 = .ok (.aload_n 0, 1) := by decide +kernel
theorem d_EndText_init_1 : decode kY_EndText_init.2.1 1 = .ok (.invokespecial 1, 3) := by decide +kernel
theorem d_EndText_init_4 : decode kY_EndText_init.2.1 4 = .ok (.aload_n 0, 1) := by decide +kernel
theorem d_EndText_init_5 : decode kY_EndText_init.2.1 5 = .ok (.lload_n 1, 1) := by decide +kernel
theorem d_EndText_init_6 : decode kY_EndText_init.2.1 6 = .ok (.putfield 7, 3) := by decide +kernel
theorem p_EndText_7_4 : mj_fp "TrustDesk$EndText" 7 4 0 (kt_EndText 0) true := ⟨kR_EndText, kF_EndText, 5, "TrustDesk$EndText", kt_EndText, rfl, kg_4, by decide, (mj_in1 (List.mem_of_getElem? (i := 758) (by decide +kernel)) rfl), Or.inl rfl, kto_EndText, kn_EndText, rfl, rfl, fun _ => rfl⟩
theorem d_EndText_init_9 : decode kY_EndText_init.2.1 9 = .ok (.aload_n 0, 1) := by decide +kernel
theorem d_EndText_init_10 : decode kY_EndText_init.2.1 10 = .ok (.iload_n 3, 1) := by decide +kernel
theorem d_EndText_init_11 : decode kY_EndText_init.2.1 11 = .ok (.putfield 13, 3) := by decide +kernel
theorem p_EndText_13_4 : mj_fp "TrustDesk$EndText" 13 4 1 (kt_EndText 1) true := ⟨kR_EndText, kF_EndText, 5, "TrustDesk$EndText", kt_EndText, rfl, kg_4, by decide, (mj_in1 (List.mem_of_getElem? (i := 760) (by decide +kernel)) rfl), Or.inl rfl, kto_EndText, kn_EndText, rfl, rfl, fun _ => rfl⟩
theorem d_EndText_init_14 : decode kY_EndText_init.2.1 14 = .ok (.aload_n 0, 1) := by decide +kernel
theorem d_EndText_init_15 : decode kY_EndText_init.2.1 15 = .ok (.aload 4, 2) := by decide +kernel
theorem d_EndText_init_17 : decode kY_EndText_init.2.1 17 = .ok (.putfield 17, 3) := by decide +kernel
theorem p_EndText_17_4 : mj_fp "TrustDesk$EndText" 17 4 2 (kt_EndText 2) true := ⟨kR_EndText, kF_EndText, 5, "TrustDesk$EndText", kt_EndText, rfl, kg_4, by decide, (mj_in1 (List.mem_of_getElem? (i := 762) (by decide +kernel)) rfl), Or.inl rfl, kto_EndText, kn_EndText, rfl, rfl, fun _ => rfl⟩
theorem d_EndText_init_20 : decode kY_EndText_init.2.1 20 = .ok (.aload_n 0, 1) := by decide +kernel
theorem d_EndText_init_21 : decode kY_EndText_init.2.1 21 = .ok (.aload 5, 2) := by decide +kernel
theorem d_EndText_init_23 : decode kY_EndText_init.2.1 23 = .ok (.putfield 21, 3) := by decide +kernel
theorem p_EndText_21_4 : mj_fp "TrustDesk$EndText" 21 4 3 (kt_EndText 3) true := ⟨kR_EndText, kF_EndText, 5, "TrustDesk$EndText", kt_EndText, rfl, kg_4, by decide, (mj_in1 (List.mem_of_getElem? (i := 764) (by decide +kernel)) rfl), Or.inl rfl, kto_EndText, kn_EndText, rfl, rfl, fun _ => rfl⟩
theorem d_EndText_init_26 : decode kY_EndText_init.2.1 26 = .ok (.aload_n 0, 1) := by decide +kernel
theorem d_EndText_init_27 : decode kY_EndText_init.2.1 27 = .ok (.iload 6, 2) := by decide +kernel
theorem d_EndText_init_29 : decode kY_EndText_init.2.1 29 = .ok (.putfield 24, 3) := by decide +kernel
theorem p_EndText_24_4 : mj_fp "TrustDesk$EndText" 24 4 4 (kt_EndText 4) true := ⟨kR_EndText, kF_EndText, 5, "TrustDesk$EndText", kt_EndText, rfl, kg_4, by decide, (mj_in1 (List.mem_of_getElem? (i := 766) (by decide +kernel)) rfl), Or.inl rfl, kto_EndText, kn_EndText, rfl, rfl, fun _ => rfl⟩
theorem d_EndText_init_32 : decode kY_EndText_init.2.1 32 = .ok (.return_, 1) := by decide +kernel
def w_EndText_init : List Nat := []
theorem tc_EndText_init {g : mj_G} {l : Launch} {d : Nat} {T0 : tm_H} {M0 : mj_M} {n0 : Nat} {o0 : Nat} {x1 : Int64} {x2 : Int32} {o3 : Nat} {o4 : Nat} {x5 : Int32} (h_o0 : T0 o0 = some (5, 4, 0)) (h_o3 : T0 o3 = some (0, 2, 0)) (h_o4 : T0 o4 = some (0, 2, 0)) (hn0 : 0 ≤ x5.toInt ∧ x5.toInt ≤ 1) (m_o0 : M0 o0 = some (.inr (4, [.long 0, .int 0, .null, .null, .int 0]))) (I0 : tm_I tm_FT (tm_in w_EndText_init) o0 T0 M0 n0 T0 M0 n0) : mj_Met g l kY_EndText_init (d + 1) [.ref o0, .long x1, .int x2, .ref o3, .ref o4, .int x5] M0 n0 0 0 (tm_Q tm_FT (tm_in w_EndText_init) o0 T0 M0 n0 (fun r T M => r = none ∧ M o0 = some (.inr (4, [.long x1, .int x2, .ref o3, .ref o4, .int x5])))) := by
  refine mj_enter (by decide) (Nat.le_of_ble_eq_true rfl) ?_
  refine mv_aload_n d_EndText_init_0 rfl rfl ?_
  refine mv_oinit d_EndText_init_1 (mj_in1 (List.mem_of_getElem? (i := 757) (by decide +kernel)) rfl) (Nat.le_of_ble_eq_true rfl) ?_
  refine mv_aload_n d_EndText_init_4 rfl rfl ?_
  refine mv_lload_n d_EndText_init_5 rfl rfl ?_
  refine tr_putXF (k := 0) (fs' := [.long x1, .int 0, .null, .null, .int 0]) tm_okF I0 h_o0 (Or.inl rfl) m_o0 d_EndText_init_6 p_EndText_7_4 rfl (Nat.le_of_ble_eq_true rfl) rfl rfl rfl (fun M1 I2 m3 K4 => ?_)
  refine mv_aload_n d_EndText_init_9 rfl rfl ?_
  refine mv_iload_n d_EndText_init_10 rfl rfl ?_
  refine tr_putXF (k := 1) (fs' := [.long x1, .int x2, .null, .null, .int 0]) tm_okF I2 h_o0 (Or.inl rfl) m3 d_EndText_init_11 p_EndText_13_4 rfl (Nat.le_of_ble_eq_true rfl) rfl rfl rfl (fun M5 I6 m7 K8 => ?_)
  refine mv_aload_n d_EndText_init_14 rfl rfl ?_
  refine mv_aload d_EndText_init_15 rfl ?_
  refine tr_putXF (k := 2) (fs' := [.long x1, .int x2, .ref o3, .null, .int 0]) tm_okF I6 h_o0 (Or.inl rfl) m7 d_EndText_init_17 p_EndText_17_4 rfl (Nat.le_of_ble_eq_true rfl) rfl rfl rfl (fun M9 I10 m11 K12 => ?_)
  refine mv_aload_n d_EndText_init_20 rfl rfl ?_
  refine mv_aload d_EndText_init_21 rfl ?_
  refine tr_putXF (k := 3) (fs' := [.long x1, .int x2, .ref o3, .ref o4, .int 0]) tm_okF I10 h_o0 (Or.inl rfl) m11 d_EndText_init_23 p_EndText_21_4 rfl (Nat.le_of_ble_eq_true rfl) rfl rfl rfl (fun M13 I14 m15 K16 => ?_)
  refine mv_aload_n d_EndText_init_26 rfl rfl ?_
  refine mv_iload d_EndText_init_27 rfl ?_
  refine tr_putXF (k := 4) (fs' := [.long x1, .int x2, .ref o3, .ref o4, .int x5]) tm_okF I14 h_o0 (Or.inl rfl) m15 d_EndText_init_29 p_EndText_24_4 rfl (Nat.le_of_ble_eq_true rfl) (mz_nb (by omega) (by omega)) (mz_fz (by omega) (by omega)) rfl (fun M17 I18 m19 K20 => ?_)
  exact mv_vret d_EndText_init_32 rfl ⟨_, I18, rfl, m19⟩
theorem lI_Reader_191 : mj_lI "TrustDesk$Reader" 191 kY_EndText_init 5 := ⟨⟨(mj_in1 (List.mem_of_getElem? (i := 754) (by decide +kernel)) rfl), (mj_in1 (List.mem_of_getElem? (i := 22) (by decide +kernel)) rfl), (mj_in1 (List.mem_of_getElem? (i := 756) (by decide +kernel)) rfl), by decide, rfl, by decide⟩, rfl, (mj_in1 (List.mem_of_getElem? (i := 755) (by decide +kernel)) rfl), rfl⟩
theorem d_Reader_endText_151 : decode kY_Reader_endText.2.1 151 = .ok (.areturn, 1) := by decide +kernel
theorem d_Reader_endText_130 : decode kY_Reader_endText.2.1 130 = .ok (.aload_n 0, 1) := by decide +kernel
theorem d_Reader_endText_131 : decode kY_Reader_endText.2.1 131 = .ok (.invokevirtual 82, 3) := by decide +kernel
theorem d_Reader_endText_53 : decode kY_Reader_endText.2.1 53 = .ok (.aload_n 0, 1) := by decide +kernel
theorem d_Reader_endText_54 : decode kY_Reader_endText.2.1 54 = .ok (.iconst 3, 1) := by decide +kernel
theorem d_Reader_endText_55 : decode kY_Reader_endText.2.1 55 = .ok (.invokevirtual 56, 3) := by decide +kernel
theorem d_Reader_endText_58 : decode kY_Reader_endText.2.1 58 = .ok (.pop, 1) := by decide +kernel
theorem d_Reader_endText_59 : decode kY_Reader_endText.2.1 59 = .ok (.aconst_null, 1) := by decide +kernel
theorem d_Reader_endText_60 : decode kY_Reader_endText.2.1 60 = .ok (.areturn, 1) := by decide +kernel
def w_Reader_endText_q4 : List Nat := [901, 902, 909, 910, 911, 912, 913, 914, 916, 918, 967]
theorem tc_Reader_endText_q4 {g : mj_G} {l : Launch} {d : Nat} {T0 : tm_H} {M0 : mj_M} {n0 x9 : Nat} {o0 : Nat} {o1 : Nat} (h_o0 : T0 o0 = some (0, 9, 0)) (h_o1 : T0 o1 = some (0, 6, 0)) {p : Int32} (hO : tm_at M0 o0 9 16 (.int p)) (hp : 0 ≤ p.toInt) (I0 : tm_I tm_FT (tm_in w_Reader_endText_q4) x9 T0 M0 n0 T0 M0 n0) : mj_Met g l kY_Reader_endText (d + 20) [.ref o0, .ref o1] M0 n0 5 807 (tm_Q tm_FT (tm_in w_Reader_endText_q4) x9 T0 M0 n0 (fun r T M => r = some .null ∨ ∃ b, r = some (.ref b) ∧ T b = some (0, 4, 0) ∧ tm_at M o0 9 16 (.int p))) := by
  refine mj_enter (by decide) (Nat.le_of_ble_eq_true rfl) ?_
  refine mv_aload_n d_Reader_endText_0 rfl rfl ?_
  obtain ⟨_, b7, -⟩ := I0.1 _ _ h_o0
  refine mv_callV (kc' := 5) (ks' := 807) (As := []) (st9 := [.ref o0]) d_Reader_endText_1 lV_Reader_82 b7 rfl (tc_Reader_advance (d := (d + 19)) (x9 := x9) (o0 := o0) h_o0 I0.start) rfl (Nat.le_of_ble_eq_true rfl) (Nat.le_of_ble_eq_true rfl) (Nat.le_of_ble_eq_true rfl) (hst := rfl) (fun b1r M2 n3 b1 => ?_)
  obtain ⟨T4, J5, rfl⟩ := b1
  have I6 := I0.call J5 (tm_sub (by decide)) (Or.inl rfl)
  have t8 := J5.up h_o0
  have t9 := J5.up h_o1
  have q10 := J5.keep h_o0 (by decide) hO
  refine mv_aload_n d_Reader_endText_4 rfl rfl ?_
  obtain ⟨v12, q11⟩ := tm_atI I6 t8 (k := 12) rfl
  refine tr_getK q11 d_Reader_endText_5 f_Reader_172_9 ?_
  refine mv_aload_n d_Reader_endText_8 rfl rfl ?_
  obtain ⟨v14, q13⟩ := tm_atI I6 t8 (k := 11) rfl
  refine tr_getK q13 d_Reader_endText_9 f_Reader_175_9 ?_
  refine mv_isub d_Reader_endText_12 ?_
  refine mv_istore_n (lv' := [(2, .int (v12 - v14)), (0, .ref o0), (1, .ref o1)]) d_Reader_endText_13 rfl (by decide) rfl ?_
  refine mv_aload_n d_Reader_endText_14 rfl rfl ?_
  obtain ⟨v16, q15⟩ := tm_atI I6 t8 (k := 10) rfl
  refine tr_getK q15 d_Reader_endText_15 f_Reader_41_9 ?_
  refine mv_iconst (v := 1) d_Reader_endText_18 (by decide) ?_
  have := mz_hi v16
  refine mv_icmp_neZ (tgt := 28) (a := v16.toInt) (b := 1) d_Reader_endText_19 (by decide) rfl (by decide) (fun b17 => ?_) (fun b17 => ?_)
  · refine mv_aload_n d_Reader_endText_28 rfl rfl ?_
    refine mv_iconst (v := 1) d_Reader_endText_29 (by decide) ?_
    obtain ⟨_, b24, -⟩ := I6.1 _ _ t8
    refine mv_callV (kc' := 5) (ks' := 807) (As := [.int 1]) (st9 := [.int 1, .ref o0]) d_Reader_endText_30 lV_Reader_56 b24 rfl (tc_Reader_refuse (d := (d + 19)) (x9 := x9) (o0 := o0) (x1 := 1) t8 I6.start) rfl (Nat.le_of_ble_eq_true rfl) (Nat.le_of_ble_eq_true rfl) (Nat.le_of_ble_eq_true rfl) (hst := rfl) (fun b18r M19 n20 b18 => ?_)
    obtain ⟨T21, J22, rfl⟩ := b18
    have I23 := I6.call J22 (tm_sub (by decide)) (Or.inl rfl)
    have t25 := J22.up t8
    have t26 := J22.up t9
    have q27 := J22.keep t8 (by decide) q10
    have q28 := J22.keep t8 (by decide) q11
    have q29 := J22.keep t8 (by decide) q13
    have q30 := J22.keep t8 (by decide) q15
    refine mv_pop d_Reader_endText_33 rfl ?_
    refine mv_null d_Reader_endText_34 ?_
    exact mv_aret (r := none) d_Reader_endText_35 rfl (by first | exact Or.inl ⟨_, rfl⟩ | exact Or.inr ⟨_, rfl⟩) ⟨_, I23, Or.inl rfl⟩
  · refine mv_iload_n d_Reader_endText_22 rfl rfl ?_
    refine mv_bipush (v := 8) d_Reader_endText_23 (by decide) ?_
    have := mz_hi (v12 - v14)
    refine mv_icmp_leZ (tgt := 36) (a := (v12 - v14).toInt) (b := 8) d_Reader_endText_25 (by decide) rfl (by decide) (fun b31 => ?_) (fun b31 => ?_)
    · refine mv_aload_n d_Reader_endText_36 rfl rfl ?_
      obtain ⟨_, b38, -⟩ := I6.1 _ _ t8
      refine mv_callV (kc' := 5) (ks' := 807) (As := []) (st9 := [.ref o0]) d_Reader_endText_37 lV_Reader_178 b38 rfl (tc_Reader_wordAsNumber (d := (d + 19)) (x9 := x9) (o0 := o0) t8 I6.start) rfl (Nat.le_of_ble_eq_true rfl) (Nat.le_of_ble_eq_true rfl) (Nat.le_of_ble_eq_true rfl) (hst := rfl) (fun b32r M33 n34 b32 => ?_)
      obtain ⟨T35, J36, v39, rfl⟩ := b32
      have I37 := I6.call J36 (tm_sub (by decide)) (Or.inl rfl)
      have t40 := J36.up t8
      have t41 := J36.up t9
      have q42 := J36.keep t8 (by decide) q10
      have q43 := J36.keep t8 (by decide) q11
      have q44 := J36.keep t8 (by decide) q13
      have q45 := J36.keep t8 (by decide) q15
      refine mv_lstore_n (lv' := [(3, .long v39), (2, .int (v12 - v14)), (0, .ref o0), (1, .ref o1)]) d_Reader_endText_40 rfl (by decide) rfl ?_
      refine mv_aload_n d_Reader_endText_41 rfl rfl ?_
      refine mv_ifnull d_Reader_endText_42 ?_
      refine mv_aload_n d_Reader_endText_45 rfl rfl ?_
      refine mv_lload_n d_Reader_endText_46 rfl rfl ?_
      obtain ⟨_, b52, -⟩ := I37.1 _ _ t41
      refine mv_callV (kc' := 5) (ks' := 807) (As := [.long v39]) (st9 := [.long v39, .ref o1]) d_Reader_endText_47 lV_Reader_182 b52 rfl (tc_Fund_hasEnd (d := (d + 16)) (x9 := x9) (o0 := o1) (x1 := v39) t41 I37.start) rfl (Nat.le_of_ble_eq_true rfl) (Nat.le_of_ble_eq_true rfl) (Nat.le_of_ble_eq_true rfl) (hst := rfl) (fun b46r M47 n48 b46 => ?_)
      obtain ⟨T49, J50, v53, rfl, b54, b55⟩ := b46
      have I51 := I37.call J50 (tm_sub (by decide)) (Or.inl rfl)
      have t56 := J50.up t40
      have t57 := J50.up t41
      have q58 := J50.keep t40 (by decide) q42
      have q59 := J50.keep t40 (by decide) q43
      have q60 := J50.keep t40 (by decide) q44
      have q61 := J50.keep t40 (by decide) q45
      have := mz_hi v53
      refine mv_if_eqZ (tgt := 61) (a := v53.toInt) d_Reader_endText_50 (by decide) rfl (fun b62 => ?_) (fun b62 => ?_)
      · refine mv_aload_n d_Reader_endText_61 rfl rfl ?_
        obtain ⟨_, b69, -⟩ := I51.1 _ _ t56
        refine mv_callV (kc' := 5) (ks' := 807) (As := []) (st9 := [.ref o0]) d_Reader_endText_62 lV_Reader_82 b69 rfl (tc_Reader_advance (d := (d + 19)) (x9 := x9) (o0 := o0) t56 I51.start) rfl (Nat.le_of_ble_eq_true rfl) (Nat.le_of_ble_eq_true rfl) (Nat.le_of_ble_eq_true rfl) (hst := rfl) (fun b63r M64 n65 b63 => ?_)
        obtain ⟨T66, J67, rfl⟩ := b63
        have I68 := I51.call J67 (tm_sub (by decide)) (Or.inl rfl)
        have t70 := J67.up t56
        have t71 := J67.up t57
        have q72 := J67.keep t56 (by decide) q58
        refine mv_aload_n d_Reader_endText_65 rfl rfl ?_
        refine mv_iconst (v := 0) d_Reader_endText_66 (by decide) ?_
        refine tr_putK tm_okF I68 t70 (k := 18) rfl ⟨_, rfl⟩ (Or.inl (by decide)) d_Reader_endText_67 p_Reader_118_9 rfl rfl (fun M73 I74 q75 K76 => ?_)
        refine mv_aload_n d_Reader_endText_70 rfl rfl ?_
        refine mv_bipush (v := 27) d_Reader_endText_71 (by decide) ?_
        obtain ⟨_, b83, -⟩ := I74.1 _ _ t70
        refine mv_callV (kc' := 5) (ks' := 807) (As := [.int 27]) (st9 := [.int 27, .ref o0]) d_Reader_endText_73 lV_Reader_121 b83 rfl (tc_Reader_word (d := (d + 18)) (x9 := x9) (o0 := o0) (x1 := 27) t70 I74.start) rfl (Nat.le_of_ble_eq_true rfl) (Nat.le_of_ble_eq_true rfl) (Nat.le_of_ble_eq_true rfl) (hst := rfl) (fun b77r M78 n79 b77 => ?_)
        obtain ⟨T80, J81, v84, rfl, b85, b86⟩ := b77
        have I82 := I74.call J81 (tm_sub (by decide)) (Or.inl rfl)
        have t87 := J81.up t70
        have t88 := J81.up t71
        have q89 := J81.keep t70 (by decide) (K76 _ 9 16 _ rfl q72)
        have q90 := J81.keep t70 (by decide) q75
        have := mz_hi v84
        refine mv_if_eqZ (tgt := 86) (a := v84.toInt) d_Reader_endText_76 (by decide) rfl (fun b91 => ?_) (fun b91 => ?_)
        · refine mv_null d_Reader_endText_86 ?_
          exact mv_aret (r := none) d_Reader_endText_87 rfl (by first | exact Or.inl ⟨_, rfl⟩ | exact Or.inr ⟨_, rfl⟩) ⟨_, I82, Or.inl rfl⟩
        · refine mv_aload_n d_Reader_endText_79 rfl rfl ?_
          obtain ⟨_, b98, -⟩ := I82.1 _ _ t87
          refine mv_callV (kc' := 5) (ks' := 807) (As := []) (st9 := [.ref o0]) d_Reader_endText_80 lV_Reader_186 b98 rfl (tc_Reader_sum_q4 (d := (d + 3)) (x9 := x9) (o0 := o0) t87 (p := p) q89 (by omega) I82.start) rfl (Nat.le_of_ble_eq_true rfl) (Nat.le_of_ble_eq_true rfl) (Nat.le_of_ble_eq_true rfl) (hst := rfl) (fun b92r M93 n94 b92 => ?_)
          obtain ⟨T95, J96, v99, rfl, b100, b101, o102⟩ := b92
          have I97 := I82.call J96 (tm_sub (by decide)) (Or.inl rfl)
          have t103 := J96.up t87
          have t104 := J96.up t88
          have := mz_hi v99
          refine mv_if_neZ (tgt := 88) (a := v99.toInt) d_Reader_endText_83 (by decide) rfl (fun b105 => ?_) (fun b105 => ?_)
          · have q106 := o102 (by omega)
            refine mv_aload_n d_Reader_endText_88 rfl rfl ?_
            obtain ⟨_, b113, -⟩ := I97.1 _ _ t103
            refine mv_callV (kc' := 3) (ks' := 406) (As := []) (st9 := [.ref o0]) d_Reader_endText_89 lV_Reader_128 b113 rfl (tc_Reader_stepsTaken (d := (d + 17)) (x9 := x9) (o0 := o0) t103 I97.start) rfl (Nat.le_of_ble_eq_true rfl) (Nat.le_of_ble_eq_true rfl) (Nat.le_of_ble_eq_true rfl) (hst := rfl) (fun b107r M108 n109 b107 => ?_)
            obtain ⟨T110, J111, a114, rfl, t_a114⟩ := b107
            have I112 := I97.call J111 (tm_sub (by decide)) (Or.inl rfl)
            have t115 := J111.up t103
            have t116 := J111.up t104
            have q117 := J111.keep t103 (by decide) q106
            refine mv_astore (lv' := [(5, .ref a114), (3, .long v39), (2, .int (v12 - v14)), (0, .ref o0), (1, .ref o1)]) d_Reader_endText_92 (by decide) rfl ?_
            refine mv_aload_n d_Reader_endText_94 rfl rfl ?_
            refine mv_iconst (v := 0) d_Reader_endText_95 (by decide) ?_
            refine tr_putK tm_okF I112 t115 (k := 18) rfl ⟨_, rfl⟩ (Or.inl (by decide)) d_Reader_endText_96 p_Reader_118_9 rfl rfl (fun M118 I119 q120 K121 => ?_)
            refine mv_aload_n d_Reader_endText_99 rfl rfl ?_
            refine mv_bipush (v := 28) d_Reader_endText_100 (by decide) ?_
            obtain ⟨_, b128, -⟩ := I119.1 _ _ t115
            refine mv_callV (kc' := 3) (ks' := 406) (As := [.int 28]) (st9 := [.int 28, .ref o0]) d_Reader_endText_102 lV_Reader_121 b128 rfl (tc_Reader_word (d := (d + 18)) (x9 := x9) (o0 := o0) (x1 := 28) t115 I119.start) rfl (Nat.le_of_ble_eq_true rfl) (Nat.le_of_ble_eq_true rfl) (Nat.le_of_ble_eq_true rfl) (hst := rfl) (fun b122r M123 n124 b122 => ?_)
            obtain ⟨T125, J126, v129, rfl, b130, b131⟩ := b122
            have I127 := I119.call J126 (tm_sub (by decide)) (Or.inl rfl)
            have t132 := J126.up t_a114
            have t133 := J126.up t115
            have t134 := J126.up t116
            have q135 := J126.keep t115 (by decide) (K121 _ 9 16 _ rfl q117)
            have q136 := J126.keep t115 (by decide) q120
            have := mz_hi v129
            refine mv_if_eqZ (tgt := 115) (a := v129.toInt) d_Reader_endText_105 (by decide) rfl (fun b137 => ?_) (fun b137 => ?_)
            · refine mv_null d_Reader_endText_115 ?_
              exact mv_aret (r := none) d_Reader_endText_116 rfl (by first | exact Or.inl ⟨_, rfl⟩ | exact Or.inr ⟨_, rfl⟩) ⟨_, I127, Or.inl rfl⟩
            · refine mv_aload_n d_Reader_endText_108 rfl rfl ?_
              obtain ⟨_, b144, -⟩ := I127.1 _ _ t133
              refine mv_callV (kc' := 3) (ks' := 406) (As := []) (st9 := [.ref o0]) d_Reader_endText_109 lV_Reader_124 b144 rfl (tc_Reader_condition_q4 (d := d) (x9 := x9) (o0 := o0) t133 (p := p) q135 (by omega) I127.start) rfl (Nat.le_of_ble_eq_true rfl) (Nat.le_of_ble_eq_true rfl) (Nat.le_of_ble_eq_true rfl) (hst := rfl) (fun b138r M139 n140 b138 => ?_)
              obtain ⟨T141, J142, v145, rfl, b146, b147, o148⟩ := b138
              have I143 := I127.call J142 (tm_sub (by decide)) (Or.inl rfl)
              have t149 := J142.up t132
              have t150 := J142.up t133
              have t151 := J142.up t134
              have := mz_hi v145
              refine mv_if_neZ (tgt := 117) (a := v145.toInt) d_Reader_endText_112 (by decide) rfl (fun b152 => ?_) (fun b152 => ?_)
              · have q153 := o148 (by omega)
                refine mv_aload_n d_Reader_endText_117 rfl rfl ?_
                refine mv_bipush (v := 29) d_Reader_endText_118 (by decide) ?_
                obtain ⟨_, b160, -⟩ := I143.1 _ _ t150
                refine mv_callV (kc' := 3) (ks' := 406) (As := [.int 29]) (st9 := [.int 29, .ref o0]) d_Reader_endText_120 lV_Reader_52 b160 rfl (tc_Reader_isWord (d := (d + 19)) (x9 := x9) (o0 := o0) (x1 := 29) t150 I143.start) rfl (Nat.le_of_ble_eq_true rfl) (Nat.le_of_ble_eq_true rfl) (Nat.le_of_ble_eq_true rfl) (hst := rfl) (fun b154r M155 n156 b154 => ?_)
                obtain ⟨T157, J158, v161, rfl, b162, b163⟩ := b154
                have I159 := I143.call J158 (tm_sub (by decide)) (Or.inl rfl)
                have t164 := J158.up t149
                have t165 := J158.up t150
                have t166 := J158.up t151
                have q167 := J158.keep t150 (by decide) q153
                refine mv_istore (lv' := [(6, .int v161), (5, .ref a114), (3, .long v39), (2, .int (v12 - v14)), (0, .ref o0), (1, .ref o1)]) d_Reader_endText_123 (by decide) rfl ?_
                refine mv_iload d_Reader_endText_125 rfl ?_
                have := mz_hi v161
                refine mv_if_eqZ (tgt := 134) (a := v161.toInt) d_Reader_endText_127 (by decide) rfl (fun b168 => ?_) (fun b168 => ?_)
                · refine tr_new (kc' := 2) (ks' := 401) tm_okF I159 d_Reader_endText_134 n_Reader_189 (Nat.le_of_ble_eq_true rfl) (Nat.le_of_ble_eq_true rfl) (fun T169 M170 I171 t_x172 m173 h174 u175 K176 => ?_)
                  have q177 := tm_at.eq (K176 _ _ t165) q167
                  have t178 := u175 _ _ t165
                  have t179 := u175 _ _ t164
                  have t180 := u175 _ _ t166
                  refine mv_dup d_Reader_endText_137 rfl ?_
                  refine mv_lload_n d_Reader_endText_138 rfl rfl ?_
                  refine mv_iload_n d_Reader_endText_139 rfl rfl ?_
                  refine mv_aload d_Reader_endText_140 rfl ?_
                  refine mv_aload_n d_Reader_endText_142 rfl rfl ?_
                  obtain ⟨_, b187, -⟩ := I171.1 _ _ t178
                  refine mv_callV (kc' := 0) (ks' := 0) (As := []) (st9 := [.ref o0, .ref a114, .int (v12 - v14), .long v39, .ref n156, .ref n156]) d_Reader_endText_143 lV_Reader_128 b187 rfl (tc_Reader_stepsTaken (d := (d + 17)) (x9 := (n156 + 1)) (o0 := o0) t178 I171.start) rfl (Nat.le_of_ble_eq_true rfl) (Nat.le_of_ble_eq_true rfl) (Nat.le_of_ble_eq_true rfl) (hst := rfl) (fun b181r M182 n183 b181 => ?_)
                  obtain ⟨T184, J185, a188, rfl, t_a188⟩ := b181
                  have I186 := I171.call J185 (tm_sub (by decide)) (Or.inr I171.2.2.2.1)
                  have m189 := (J185.keepX t_x172 (tm_ne I171 t_x172)).trans m173
                  have t190 := J185.up t_x172
                  have t191 := J185.up t179
                  have t192 := J185.up t178
                  have t193 := J185.up t180
                  have q194 := J185.keep t178 (by decide) q177
                  refine mv_iload d_Reader_endText_146 rfl ?_
                  refine mv_callI (kc' := 0) (ks' := 0) (As := [.long v39, .int (v12 - v14), .ref a114, .ref a188, .int v161]) (st9 := [.int v161, .ref a188, .ref a114, .int (v12 - v14), .long v39, .ref n156, .ref n156]) d_Reader_endText_148 lI_Reader_191 (tc_EndText_init (d := (d + 18)) (o0 := n156) (x1 := v39) (x2 := (v12 - v14)) (o3 := a114) (o4 := a188) (x5 := v161) t190 t191 t_a188 ⟨by omega, by omega⟩ m189 I186.start) rfl (Nat.le_of_ble_eq_true rfl) (Nat.le_of_ble_eq_true rfl) (Nat.le_of_ble_eq_true rfl) (hst := rfl) (fun b195r M196 n197 b195 => ?_)
                  obtain ⟨T198, J199, rfl, m201⟩ := b195
                  have I200 := I186.call J199 (tm_sub (by decide)) (Or.inr h174)
                  have t202 := J199.up t190
                  have t203 := J199.up t191
                  have t204 := J199.up t192
                  have t205 := J199.up t193
                  have t206 := J199.up t_a188
                  have q207 := J199.keep t192 (by decide) q194
                  obtain ⟨T208, I209, t_x210, u211⟩ := I200.sealO tm_okF t202 h174 m201 (fun _ z9 => (tm_fs_cons ⟨_, rfl⟩ (tm_fs_cons ⟨_, rfl⟩ (tm_fs_cons ⟨_, rfl, z9 _ _ t203 (Nat.le_of_ble_eq_true rfl)⟩ (tm_fs_cons ⟨_, rfl, z9 _ _ t206 (Nat.le_of_ble_eq_true rfl)⟩ (tm_fs_cons ⟨_, rfl⟩ tm_fs_nil))))))
                  have t212 := u211 _ _ t204 (tm_dif t204 t202 rfl)
                  have t213 := u211 _ _ t203 (tm_dif t203 t202 rfl)
                  have t214 := u211 _ _ t205 (tm_dif t205 t202 rfl)
                  exact mv_aret (r := some n156) d_Reader_endText_151 rfl (by first | exact Or.inl ⟨_, rfl⟩ | exact Or.inr ⟨_, rfl⟩) ⟨_, I209, Or.inr ⟨_, rfl, t_x210, q207⟩⟩
                · refine mv_aload_n d_Reader_endText_130 rfl rfl ?_
                  obtain ⟨_, b221, -⟩ := I159.1 _ _ t165
                  refine mv_callV (kc' := 3) (ks' := 406) (As := []) (st9 := [.ref o0]) d_Reader_endText_131 lV_Reader_82 b221 rfl (tc_Reader_advance (d := (d + 19)) (x9 := x9) (o0 := o0) t165 I159.start) rfl (Nat.le_of_ble_eq_true rfl) (Nat.le_of_ble_eq_true rfl) (Nat.le_of_ble_eq_true rfl) (hst := rfl) (fun b215r M216 n217 b215 => ?_)
                  obtain ⟨T218, J219, rfl⟩ := b215
                  have I220 := I159.call J219 (tm_sub (by decide)) (Or.inl rfl)
                  have t222 := J219.up t164
                  have t223 := J219.up t165
                  have t224 := J219.up t166
                  have q225 := J219.keep t165 (by decide) q167
                  refine tr_new (kc' := 2) (ks' := 401) tm_okF I220 d_Reader_endText_134 n_Reader_189 (Nat.le_of_ble_eq_true rfl) (Nat.le_of_ble_eq_true rfl) (fun T226 M227 I228 t_x229 m230 h231 u232 K233 => ?_)
                  have q234 := tm_at.eq (K233 _ _ t223) q225
                  have t235 := u232 _ _ t223
                  have t236 := u232 _ _ t222
                  have t237 := u232 _ _ t224
                  refine mv_dup d_Reader_endText_137 rfl ?_
                  refine mv_lload_n d_Reader_endText_138 rfl rfl ?_
                  refine mv_iload_n d_Reader_endText_139 rfl rfl ?_
                  refine mv_aload d_Reader_endText_140 rfl ?_
                  refine mv_aload_n d_Reader_endText_142 rfl rfl ?_
                  obtain ⟨_, b244, -⟩ := I228.1 _ _ t235
                  refine mv_callV (kc' := 0) (ks' := 0) (As := []) (st9 := [.ref o0, .ref a114, .int (v12 - v14), .long v39, .ref n217, .ref n217]) d_Reader_endText_143 lV_Reader_128 b244 rfl (tc_Reader_stepsTaken (d := (d + 17)) (x9 := (n217 + 1)) (o0 := o0) t235 I228.start) rfl (Nat.le_of_ble_eq_true rfl) (Nat.le_of_ble_eq_true rfl) (Nat.le_of_ble_eq_true rfl) (hst := rfl) (fun b238r M239 n240 b238 => ?_)
                  obtain ⟨T241, J242, a245, rfl, t_a245⟩ := b238
                  have I243 := I228.call J242 (tm_sub (by decide)) (Or.inr I228.2.2.2.1)
                  have m246 := (J242.keepX t_x229 (tm_ne I228 t_x229)).trans m230
                  have t247 := J242.up t_x229
                  have t248 := J242.up t236
                  have t249 := J242.up t235
                  have t250 := J242.up t237
                  have q251 := J242.keep t235 (by decide) q234
                  refine mv_iload d_Reader_endText_146 rfl ?_
                  refine mv_callI (kc' := 0) (ks' := 0) (As := [.long v39, .int (v12 - v14), .ref a114, .ref a245, .int v161]) (st9 := [.int v161, .ref a245, .ref a114, .int (v12 - v14), .long v39, .ref n217, .ref n217]) d_Reader_endText_148 lI_Reader_191 (tc_EndText_init (d := (d + 18)) (o0 := n217) (x1 := v39) (x2 := (v12 - v14)) (o3 := a114) (o4 := a245) (x5 := v161) t247 t248 t_a245 ⟨by omega, by omega⟩ m246 I243.start) rfl (Nat.le_of_ble_eq_true rfl) (Nat.le_of_ble_eq_true rfl) (Nat.le_of_ble_eq_true rfl) (hst := rfl) (fun b252r M253 n254 b252 => ?_)
                  obtain ⟨T255, J256, rfl, m258⟩ := b252
                  have I257 := I243.call J256 (tm_sub (by decide)) (Or.inr h231)
                  have t259 := J256.up t247
                  have t260 := J256.up t248
                  have t261 := J256.up t249
                  have t262 := J256.up t250
                  have t263 := J256.up t_a245
                  have q264 := J256.keep t249 (by decide) q251
                  obtain ⟨T265, I266, t_x267, u268⟩ := I257.sealO tm_okF t259 h231 m258 (fun _ z9 => (tm_fs_cons ⟨_, rfl⟩ (tm_fs_cons ⟨_, rfl⟩ (tm_fs_cons ⟨_, rfl, z9 _ _ t260 (Nat.le_of_ble_eq_true rfl)⟩ (tm_fs_cons ⟨_, rfl, z9 _ _ t263 (Nat.le_of_ble_eq_true rfl)⟩ (tm_fs_cons ⟨_, rfl⟩ tm_fs_nil))))))
                  have t269 := u268 _ _ t261 (tm_dif t261 t259 rfl)
                  have t270 := u268 _ _ t260 (tm_dif t260 t259 rfl)
                  have t271 := u268 _ _ t262 (tm_dif t262 t259 rfl)
                  exact mv_aret (r := some n217) d_Reader_endText_151 rfl (by first | exact Or.inl ⟨_, rfl⟩ | exact Or.inr ⟨_, rfl⟩) ⟨_, I266, Or.inr ⟨_, rfl, t_x267, q264⟩⟩
              · refine mv_null d_Reader_endText_115 ?_
                exact mv_aret (r := none) d_Reader_endText_116 rfl (by first | exact Or.inl ⟨_, rfl⟩ | exact Or.inr ⟨_, rfl⟩) ⟨_, I143, Or.inl rfl⟩
          · refine mv_null d_Reader_endText_86 ?_
            exact mv_aret (r := none) d_Reader_endText_87 rfl (by first | exact Or.inl ⟨_, rfl⟩ | exact Or.inr ⟨_, rfl⟩) ⟨_, I97, Or.inl rfl⟩
      · refine mv_aload_n d_Reader_endText_53 rfl rfl ?_
        refine mv_iconst (v := 3) d_Reader_endText_54 (by decide) ?_
        obtain ⟨_, b278, -⟩ := I51.1 _ _ t56
        refine mv_callV (kc' := 5) (ks' := 807) (As := [.int 3]) (st9 := [.int 3, .ref o0]) d_Reader_endText_55 lV_Reader_56 b278 rfl (tc_Reader_refuse (d := (d + 19)) (x9 := x9) (o0 := o0) (x1 := 3) t56 I51.start) rfl (Nat.le_of_ble_eq_true rfl) (Nat.le_of_ble_eq_true rfl) (Nat.le_of_ble_eq_true rfl) (hst := rfl) (fun b272r M273 n274 b272 => ?_)
        obtain ⟨T275, J276, rfl⟩ := b272
        have I277 := I51.call J276 (tm_sub (by decide)) (Or.inl rfl)
        have t279 := J276.up t56
        have t280 := J276.up t57
        have q281 := J276.keep t56 (by decide) q58
        have q282 := J276.keep t56 (by decide) q59
        have q283 := J276.keep t56 (by decide) q60
        have q284 := J276.keep t56 (by decide) q61
        refine mv_pop d_Reader_endText_58 rfl ?_
        refine mv_null d_Reader_endText_59 ?_
        exact mv_aret (r := none) d_Reader_endText_60 rfl (by first | exact Or.inl ⟨_, rfl⟩ | exact Or.inr ⟨_, rfl⟩) ⟨_, I277, Or.inl rfl⟩
    · refine mv_aload_n d_Reader_endText_28 rfl rfl ?_
      refine mv_iconst (v := 1) d_Reader_endText_29 (by decide) ?_
      obtain ⟨_, b291, -⟩ := I6.1 _ _ t8
      refine mv_callV (kc' := 5) (ks' := 807) (As := [.int 1]) (st9 := [.int 1, .ref o0]) d_Reader_endText_30 lV_Reader_56 b291 rfl (tc_Reader_refuse (d := (d + 19)) (x9 := x9) (o0 := o0) (x1 := 1) t8 I6.start) rfl (Nat.le_of_ble_eq_true rfl) (Nat.le_of_ble_eq_true rfl) (Nat.le_of_ble_eq_true rfl) (hst := rfl) (fun b285r M286 n287 b285 => ?_)
      obtain ⟨T288, J289, rfl⟩ := b285
      have I290 := I6.call J289 (tm_sub (by decide)) (Or.inl rfl)
      have t292 := J289.up t8
      have t293 := J289.up t9
      have q294 := J289.keep t8 (by decide) q10
      have q295 := J289.keep t8 (by decide) q11
      have q296 := J289.keep t8 (by decide) q13
      have q297 := J289.keep t8 (by decide) q15
      refine mv_pop d_Reader_endText_33 rfl ?_
      refine mv_null d_Reader_endText_34 ?_
      exact mv_aret (r := none) d_Reader_endText_35 rfl (by first | exact Or.inl ⟨_, rfl⟩ | exact Or.inr ⟨_, rfl⟩) ⟨_, I290, Or.inl rfl⟩
theorem lV_Reader_59 : mj_lV "TrustDesk$Reader" 59 kY_Reader_endText 1 := ⟨⟨(mj_in1 (List.mem_of_getElem? (i := 735) (by decide +kernel)) rfl), (mj_in1 (List.mem_of_getElem? (i := 3) (by decide +kernel)) rfl), (mj_in1 (List.mem_of_getElem? (i := 738) (by decide +kernel)) rfl), by decide, rfl, by decide⟩, (mj_in1 (List.mem_of_getElem? (i := 737) (by decide +kernel)) rfl), (mj_in (List.mem_append_left _ (List.mem_of_getElem? (i := 36) (by decide +kernel))) rfl)⟩
theorem d_Reader_clause_76 : decode kY_Reader_clause.2.1 76 = .ok (.astore 5, 2) := by decide +kernel
theorem d_Reader_clause_78 : decode kY_Reader_clause.2.1 78 = .ok (.aload 5, 2) := by decide +kernel
theorem d_Reader_clause_80 : decode kY_Reader_clause.2.1 80 = .ok (.ifnonnull 5, 3) := by decide +kernel
theorem d_Reader_clause_83 : decode kY_Reader_clause.2.1 83 = .ok (.iconst 0, 1) := by decide +kernel
theorem d_Reader_clause_84 : decode kY_Reader_clause.2.1 84 = .ok (.ireturn, 1) := by decide +kernel
theorem d_Reader_clause_85 : decode kY_Reader_clause.2.1 85 = .ok (.aload_n 1, 1) := by decide +kernel
theorem d_Reader_clause_86 : decode kY_Reader_clause.2.1 86 = .ok (.getfield 136, 3) := by decide +kernel
theorem d_Reader_clause_89 : decode kY_Reader_clause.2.1 89 = .ok (.new 147, 3) := by decide +kernel
theorem n_Reader_147 : mj_nw "TrustDesk$Reader" 147 3 [.null, .int 0, .int 0, .int 0] := ⟨kR_End, kF_End, 4, kt_End, rfl, kg_3, kto_End, (mj_in1 (List.mem_of_getElem? (i := 779) (by decide +kernel)) rfl), (mj_in1 (List.mem_of_getElem? (i := 780) (by decide +kernel)) rfl), (mj_in1 (List.mem_of_getElem? (i := 23) (by decide +kernel)) rfl), by decide +kernel, rfl, fun _ => rfl⟩
theorem d_Reader_clause_92 : decode kY_Reader_clause.2.1 92 = .ok (.dup, 1) := by decide +kernel
theorem d_Reader_clause_93 : decode kY_Reader_clause.2.1 93 = .ok (.aload 5, 2) := by decide +kernel
theorem d_Reader_clause_95 : decode kY_Reader_clause.2.1 95 = .ok (.invokespecial 149, 3) := by decide +kernel
abbrev kY_End_init : mj_Y := (⟨"TrustDesk$End", "<init>", "(LTrustDesk$EndText;)V"⟩, prog_4_method_1_code, 2, (Option.none : Option Jvm.ClassFile.FieldType))
theorem d_End_init_0 : decode kY_End_init.2.1 0 = .ok (.aload_n 0, 1) := by decide +kernel
theorem d_End_init_1 : decode kY_End_init.2.1 1 = .ok (.invokespecial 3, 3) := by decide +kernel
theorem d_End_init_4 : decode kY_End_init.2.1 4 = .ok (.aload_n 0, 1) := by decide +kernel
theorem d_End_init_5 : decode kY_End_init.2.1 5 = .ok (.iconst 0, 1) := by decide +kernel
theorem d_End_init_6 : decode kY_End_init.2.1 6 = .ok (.putfield 9, 3) := by decide +kernel
theorem d_End_init_9 : decode kY_End_init.2.1 9 = .ok (.aload_n 0, 1) := by decide +kernel
theorem d_End_init_10 : decode kY_End_init.2.1 10 = .ok (.iconst (-1), 1) := by decide +kernel
theorem d_End_init_11 : decode kY_End_init.2.1 11 = .ok (.putfield 15, 3) := by decide +kernel
theorem d_End_init_14 : decode kY_End_init.2.1 14 = .ok (.aload_n 0, 1) := by decide +kernel
theorem d_End_init_15 : decode kY_End_init.2.1 15 = .ok (.aload_n 1, 1) := by decide +kernel
theorem d_End_init_16 : decode kY_End_init.2.1 16 = .ok (.putfield 18, 3) := by decide +kernel
theorem d_End_init_19 : decode kY_End_init.2.1 19 = .ok (.return_, 1) := by decide +kernel
def w_End_init : List Nat := []
theorem tc_End_init {g : mj_G} {l : Launch} {d : Nat} {T0 : tm_H} {M0 : mj_M} {n0 : Nat} {o0 : Nat} {o1 : Nat} (h_o0 : T0 o0 = some (5, 3, 0)) (h_o1 : T0 o1 = some (0, 4, 0)) (m_o0 : M0 o0 = some (.inr (3, [.null, .int 0, .int 0, .int 0]))) (I0 : tm_I tm_FT (tm_in w_End_init) o0 T0 M0 n0 T0 M0 n0) : mj_Met g l kY_End_init (d + 1) [.ref o0, .ref o1] M0 n0 0 0 (tm_Q tm_FT (tm_in w_End_init) o0 T0 M0 n0 (fun r T M => r = none ∧ M o0 = some (.inr (3, [.ref o1, .int 0, .int 0, .int (-1)])))) := by
  refine mj_enter (by decide) (Nat.le_of_ble_eq_true rfl) ?_
  refine mv_aload_n d_End_init_0 rfl rfl ?_
  refine mv_oinit d_End_init_1 (mj_in1 (List.mem_of_getElem? (i := 784) (by decide +kernel)) rfl) (Nat.le_of_ble_eq_true rfl) ?_
  refine mv_aload_n d_End_init_4 rfl rfl ?_
  refine mv_iconst (v := 0) d_End_init_5 (by decide) ?_
  refine tr_putX (k := 1) (fs' := [.null, .int 0, .int 0, .int 0]) tm_okF I0 h_o0 (Or.inl rfl) m_o0 d_End_init_6 p_End_9_3 (Nat.le_of_ble_eq_true rfl) rfl rfl rfl (fun M1 I2 m3 K4 => ?_)
  refine mv_aload_n d_End_init_9 rfl rfl ?_
  refine mv_iconst (v := (-1)) d_End_init_10 (by decide) ?_
  refine tr_putX (k := 3) (fs' := [.null, .int 0, .int 0, .int (-1)]) tm_okF I2 h_o0 (Or.inl rfl) m3 d_End_init_11 p_End_15_3 (Nat.le_of_ble_eq_true rfl) rfl rfl rfl (fun M5 I6 m7 K8 => ?_)
  refine mv_aload_n d_End_init_14 rfl rfl ?_
  refine mv_aload_n d_End_init_15 rfl rfl ?_
  refine tr_putX (k := 0) (fs' := [.ref o1, .int 0, .int 0, .int (-1)]) tm_okF I6 h_o0 (Or.inl rfl) m7 d_End_init_16 p_End_18_3 (Nat.le_of_ble_eq_true rfl) rfl rfl rfl (fun M9 I10 m11 K12 => ?_)
  exact mv_vret d_End_init_19 rfl ⟨_, I10, rfl, m11⟩
theorem lI_Reader_149 : mj_lI "TrustDesk$Reader" 149 kY_End_init 1 := ⟨⟨(mj_in1 (List.mem_of_getElem? (i := 781) (by decide +kernel)) rfl), (mj_in1 (List.mem_of_getElem? (i := 23) (by decide +kernel)) rfl), (mj_in1 (List.mem_of_getElem? (i := 783) (by decide +kernel)) rfl), by decide, rfl, by decide⟩, rfl, (mj_in1 (List.mem_of_getElem? (i := 782) (by decide +kernel)) rfl), rfl⟩
theorem d_Reader_clause_98 : decode kY_Reader_clause.2.1 98 = .ok (.invokevirtual 152, 3) := by decide +kernel
theorem lV_Reader_152 : mj_lV "TrustDesk$Reader" 152 kY_ArrayList_add_0 1 := ⟨⟨(mj_in1 (List.mem_of_getElem? (i := 804) (by decide +kernel)) rfl), (mj_in1 (List.mem_of_getElem? (i := 9) (by decide +kernel)) rfl), (mj_in1 (List.mem_of_getElem? (i := 562) (by decide +kernel)) rfl), by decide, rfl, by decide⟩, (mj_in1 (List.mem_of_getElem? (i := 560) (by decide +kernel)) rfl), (mj_in1 (List.mem_of_getElem? (i := 561) (by decide +kernel)) rfl)⟩
theorem d_Reader_clause_101 : decode kY_Reader_clause.2.1 101 = .ok (.pop, 1) := by decide +kernel
theorem d_Reader_clause_102 : decode kY_Reader_clause.2.1 102 = .ok (.goto 29, 3) := by decide +kernel
theorem d_Reader_clause_19 : decode kY_Reader_clause.2.1 19 = .ok (.iload 4, 2) := by decide +kernel
theorem d_Reader_clause_21 : decode kY_Reader_clause.2.1 21 = .ok (.ifCond .ne 18, 3) := by decide +kernel
theorem d_Reader_clause_24 : decode kY_Reader_clause.2.1 24 = .ok (.aload_n 0, 1) := by decide +kernel
theorem d_Reader_clause_25 : decode kY_Reader_clause.2.1 25 = .ok (.bipush 25, 2) := by decide +kernel
theorem d_Reader_clause_27 : decode kY_Reader_clause.2.1 27 = .ok (.invokevirtual 52, 3) := by decide +kernel
theorem d_Reader_clause_30 : decode kY_Reader_clause.2.1 30 = .ok (.ifCond .ne 9, 3) := by decide +kernel
theorem d_Reader_clause_33 : decode kY_Reader_clause.2.1 33 = .ok (.aload_n 0, 1) := by decide +kernel
theorem d_Reader_clause_34 : decode kY_Reader_clause.2.1 34 = .ok (.iconst 1, 1) := by decide +kernel
theorem d_Reader_clause_35 : decode kY_Reader_clause.2.1 35 = .ok (.invokevirtual 56, 3) := by decide +kernel
theorem d_Reader_clause_38 : decode kY_Reader_clause.2.1 38 = .ok (.ireturn, 1) := by decide +kernel
def w_Reader_clause_q4 : List Nat := [604, 605, 606, 901, 902, 909, 910, 911, 912, 913, 914, 916, 918, 967, 5003]
theorem tc_Reader_clause_q4 {g : mj_G} {l : Launch} {d : Nat} {T0 : tm_H} {M0 : mj_M} {n0 x9 : Nat} {o0 : Nat} {o1 : Nat} {x2 : Int32} (h_o0 : T0 o0 = some (0, 9, 0)) (h_o1 : T0 o1 = some (0, 6, 0)) {p : Int32} (hO : tm_at M0 o0 9 16 (.int p)) (hp : 0 ≤ p.toInt) (I0 : tm_I tm_FT (tm_in w_Reader_clause_q4) x9 T0 M0 n0 T0 M0 n0) : mj_Met g l kY_Reader_clause (d + 21) [.ref o0, .ref o1, .int x2] M0 n0 7 965 (tm_Q tm_FT (tm_in w_Reader_clause_q4) x9 T0 M0 n0 (fun r _ M => ∃ v : Int32, r = some (.int v) ∧ 0 ≤ v.toInt ∧ v.toInt ≤ 1 ∧ (v.toInt = 1 → tm_at M o0 9 16 (.int p)))) := by
  refine mj_enter (by decide) (Nat.le_of_ble_eq_true rfl) ?_
  refine mv_aload_n d_Reader_clause_0 rfl rfl ?_
  refine mv_bipush (v := 26) d_Reader_clause_1 (by decide) ?_
  obtain ⟨_, b7, -⟩ := I0.1 _ _ h_o0
  refine mv_callV (kc' := 7) (ks' := 965) (As := [.int 26]) (st9 := [.int 26, .ref o0]) d_Reader_clause_3 lV_Reader_52 b7 rfl (tc_Reader_isWord (d := (d + 20)) (x9 := x9) (o0 := o0) (x1 := 26) h_o0 I0.start) rfl (Nat.le_of_ble_eq_true rfl) (Nat.le_of_ble_eq_true rfl) (Nat.le_of_ble_eq_true rfl) (hst := rfl) (fun b1r M2 n3 b1 => ?_)
  obtain ⟨T4, J5, v8, rfl, b9, b10⟩ := b1
  have I6 := I0.call J5 (tm_sub (by decide)) (Or.inl rfl)
  have t11 := J5.up h_o0
  have t12 := J5.up h_o1
  have q13 := J5.keep h_o0 (by decide) hO
  refine mv_istore_n (lv' := [(3, .int v8), (0, .ref o0), (1, .ref o1), (2, .int x2)]) d_Reader_clause_6 rfl (by decide) rfl ?_
  refine mv_aload_n d_Reader_clause_7 rfl rfl ?_
  refine mv_bipush (v := 24) d_Reader_clause_8 (by decide) ?_
  obtain ⟨_, b20, -⟩ := I6.1 _ _ t11
  refine mv_callV (kc' := 7) (ks' := 965) (As := [.int 24]) (st9 := [.int 24, .ref o0]) d_Reader_clause_10 lV_Reader_52 b20 rfl (tc_Reader_isWord (d := (d + 20)) (x9 := x9) (o0 := o0) (x1 := 24) t11 I6.start) rfl (Nat.le_of_ble_eq_true rfl) (Nat.le_of_ble_eq_true rfl) (Nat.le_of_ble_eq_true rfl) (hst := rfl) (fun b14r M15 n16 b14 => ?_)
  obtain ⟨T17, J18, v21, rfl, b22, b23⟩ := b14
  have I19 := I6.call J18 (tm_sub (by decide)) (Or.inl rfl)
  have t24 := J18.up t11
  have t25 := J18.up t12
  have q26 := J18.keep t11 (by decide) q13
  refine mv_istore (lv' := [(4, .int v21), (3, .int v8), (0, .ref o0), (1, .ref o1), (2, .int x2)]) d_Reader_clause_13 (by decide) rfl ?_
  refine mv_iload_n d_Reader_clause_15 rfl rfl ?_
  have := mz_hi v8
  refine mv_if_neZ (tgt := 39) (a := v8.toInt) d_Reader_clause_16 (by decide) rfl (fun b27 => ?_) (fun b27 => ?_)
  · refine mv_iload_n d_Reader_clause_39 rfl rfl ?_
    refine mv_bipush (v := 12) d_Reader_clause_40 (by decide) ?_
    have := mz_hi x2
    refine mv_icmp_geZ (tgt := 61) (a := x2.toInt) (b := 12) d_Reader_clause_42 (by decide) rfl (by decide) (fun b28 => ?_) (fun b28 => ?_)
    · refine mv_aload_n d_Reader_clause_61 rfl rfl ?_
      refine mv_iconst (v := 4) d_Reader_clause_62 (by decide) ?_
      obtain ⟨_, b35, -⟩ := I19.1 _ _ t24
      refine mv_callV (kc' := 7) (ks' := 965) (As := [.int 4]) (st9 := [.int 4, .ref o0]) d_Reader_clause_63 lV_Reader_56 b35 rfl (tc_Reader_refuse (d := (d + 20)) (x9 := x9) (o0 := o0) (x1 := 4) t24 I19.start) rfl (Nat.le_of_ble_eq_true rfl) (Nat.le_of_ble_eq_true rfl) (Nat.le_of_ble_eq_true rfl) (hst := rfl) (fun b29r M30 n31 b29 => ?_)
      obtain ⟨T32, J33, rfl⟩ := b29
      have I34 := I19.call J33 (tm_sub (by decide)) (Or.inl rfl)
      have t36 := J33.up t24
      have t37 := J33.up t25
      have q38 := J33.keep t24 (by decide) q26
      exact mv_iret d_Reader_clause_66 rfl (by decide) ⟨_, I34, _, rfl, by decide, by decide, fun h => absurd h (by decide)⟩
    · refine mv_iload_n d_Reader_clause_45 rfl rfl ?_
      have := mz_hi v8
      refine mv_if_eqZ (tgt := 67) (a := v8.toInt) d_Reader_clause_46 (by decide) rfl (fun b39 => ?_) (fun b39 => ?_)
      · refine mv_iload_n d_Reader_clause_67 rfl rfl ?_
        have := mz_hi v8
        refine mv_if_eqZ (tgt := 105) (a := v8.toInt) d_Reader_clause_68 (by decide) rfl (fun b40 => ?_) (fun b40 => absurd b40 (by omega))
        refine mv_iload d_Reader_clause_105 rfl ?_
        have := mz_hi v21
        refine mv_if_eqZ (tgt := 121) (a := v21.toInt) d_Reader_clause_107 (by decide) rfl (fun b41 => ?_) (fun b41 => ?_)
        · refine mv_aload_n d_Reader_clause_121 rfl rfl ?_
          refine mv_aload_n d_Reader_clause_122 rfl rfl ?_
          obtain ⟨_, b48, -⟩ := I19.1 _ _ t24
          refine mv_callV (kc' := 7) (ks' := 965) (As := [.ref o1]) (st9 := [.ref o1, .ref o0]) d_Reader_clause_123 lV_Reader_160 b48 rfl (tc_Reader_trustClause (d := (d + 18)) (x9 := x9) (o0 := o0) (o1 := o1) t24 t25 I19.start) rfl (Nat.le_of_ble_eq_true rfl) (Nat.le_of_ble_eq_true rfl) (Nat.le_of_ble_eq_true rfl) (hst := rfl) (fun b42r M43 n44 b42 => ?_)
          obtain ⟨T45, J46, v49, rfl, b50, b51⟩ := b42
          have I47 := I19.call J46 (tm_sub (by decide)) (Or.inl rfl)
          have t52 := J46.up t24
          have t53 := J46.up t25
          have q54 := J46.keep t24 (by decide) q26
          have := mz_hi v49
          refine mv_if_neZ (tgt := 131) (a := v49.toInt) d_Reader_clause_126 (by decide) rfl (fun b55 => ?_) (fun b55 => ?_)
          · refine mv_aload_n d_Reader_clause_131 rfl rfl ?_
            refine mv_bipush (v := 59) d_Reader_clause_132 (by decide) ?_
            obtain ⟨_, b62, -⟩ := I47.1 _ _ t52
            refine mv_callV (kc' := 7) (ks' := 965) (As := [.int 59]) (st9 := [.int 59, .ref o0]) d_Reader_clause_134 lV_Reader_63 b62 rfl (tc_Reader_sign (d := (d + 19)) (x9 := x9) (o0 := o0) (x1 := 59) t52 I47.start) rfl (Nat.le_of_ble_eq_true rfl) (Nat.le_of_ble_eq_true rfl) (Nat.le_of_ble_eq_true rfl) (hst := rfl) (fun b56r M57 n58 b56 => ?_)
            obtain ⟨T59, J60, v63, rfl, b64, b65⟩ := b56
            have I61 := I47.call J60 (tm_sub (by decide)) (Or.inl rfl)
            have t66 := J60.up t52
            have t67 := J60.up t53
            have q68 := J60.keep t52 (by decide) q54
            exact mv_iret d_Reader_clause_137 rfl (mz_nb (by omega) (by omega)) ⟨_, I61, _, rfl, by omega, by omega, fun _ => q68⟩
          · refine mv_iconst (v := 0) d_Reader_clause_129 (by decide) ?_
            exact mv_iret d_Reader_clause_130 rfl (by decide) ⟨_, I47, _, rfl, by decide, by decide, fun h => absurd h (by decide)⟩
        · refine mv_aload_n d_Reader_clause_110 rfl rfl ?_
          refine mv_aload_n d_Reader_clause_111 rfl rfl ?_
          obtain ⟨_, b75, -⟩ := I19.1 _ _ t24
          refine mv_callV (kc' := 7) (ks' := 965) (As := [.ref o1]) (st9 := [.ref o1, .ref o0]) d_Reader_clause_112 lV_Reader_156 b75 rfl (tc_Reader_markClause (d := (d + 18)) (x9 := x9) (o0 := o0) (o1 := o1) t24 t25 I19.start) rfl (Nat.le_of_ble_eq_true rfl) (Nat.le_of_ble_eq_true rfl) (Nat.le_of_ble_eq_true rfl) (hst := rfl) (fun b69r M70 n71 b69 => ?_)
          obtain ⟨T72, J73, v76, rfl, b77, b78⟩ := b69
          have I74 := I19.call J73 (tm_sub (by decide)) (Or.inl rfl)
          have t79 := J73.up t24
          have t80 := J73.up t25
          have q81 := J73.keep t24 (by decide) q26
          have := mz_hi v76
          refine mv_if_eqZ (tgt := 129) (a := v76.toInt) d_Reader_clause_115 (by decide) rfl (fun b82 => ?_) (fun b82 => ?_)
          · refine mv_iconst (v := 0) d_Reader_clause_129 (by decide) ?_
            exact mv_iret d_Reader_clause_130 rfl (by decide) ⟨_, I74, _, rfl, by decide, by decide, fun h => absurd h (by decide)⟩
          · refine mv_goto (tgt := 131) d_Reader_clause_118 (by decide) ?_
            refine mv_aload_n d_Reader_clause_131 rfl rfl ?_
            refine mv_bipush (v := 59) d_Reader_clause_132 (by decide) ?_
            obtain ⟨_, b89, -⟩ := I74.1 _ _ t79
            refine mv_callV (kc' := 7) (ks' := 965) (As := [.int 59]) (st9 := [.int 59, .ref o0]) d_Reader_clause_134 lV_Reader_63 b89 rfl (tc_Reader_sign (d := (d + 19)) (x9 := x9) (o0 := o0) (x1 := 59) t79 I74.start) rfl (Nat.le_of_ble_eq_true rfl) (Nat.le_of_ble_eq_true rfl) (Nat.le_of_ble_eq_true rfl) (hst := rfl) (fun b83r M84 n85 b83 => ?_)
            obtain ⟨T86, J87, v90, rfl, b91, b92⟩ := b83
            have I88 := I74.call J87 (tm_sub (by decide)) (Or.inl rfl)
            have t93 := J87.up t79
            have t94 := J87.up t80
            have q95 := J87.keep t79 (by decide) q81
            exact mv_iret d_Reader_clause_137 rfl (mz_nb (by omega) (by omega)) ⟨_, I88, _, rfl, by omega, by omega, fun _ => q95⟩
      · refine mv_aload_n d_Reader_clause_49 rfl rfl ?_
        obtain ⟨a97, q96, t_a97⟩ := tm_atO I19 t25 (k := 11) rfl
        refine tr_getK q96 d_Reader_clause_50 f_Reader_136_6 ?_
        obtain ⟨m99, n103, e100, N101, f102, h98⟩ := I19.1 _ _ t_a97
        have := h98.2.1
        have : n103.toInt ≤ 72 := h98.2.2.1
        have q104 : tm_at M15 a97 0 2 (.int n103) := ⟨_, h98.1, rfl⟩
        refine mv_callV_s (kc' := 7) (ks' := 965) [] [.ref a97] d_Reader_clause_53 lV_Reader_142 h98.1 rfl (tc_L_size (d := (d + 20)) h98.1) rfl (Nat.le_of_ble_eq_true rfl) (Nat.le_of_ble_eq_true rfl) (Nat.le_of_ble_eq_true rfl) rfl ?_
        refine mv_bipush (v := 6) d_Reader_clause_56 (by decide) ?_
        have := mz_hi n103
        refine mv_icmp_ltZ (tgt := 67) (a := n103.toInt) (b := 6) d_Reader_clause_58 (by decide) rfl (by decide) (fun b105 => ?_) (fun b105 => ?_)
        · refine mv_iload_n d_Reader_clause_67 rfl rfl ?_
          have := mz_hi v8
          refine mv_if_eqZ (tgt := 105) (a := v8.toInt) d_Reader_clause_68 (by decide) rfl (fun b106 => ?_) (fun b106 => ?_)
          · refine mv_iload d_Reader_clause_105 rfl ?_
            have := mz_hi v21
            refine mv_if_eqZ (tgt := 121) (a := v21.toInt) d_Reader_clause_107 (by decide) rfl (fun b107 => ?_) (fun b107 => ?_)
            · refine mv_aload_n d_Reader_clause_121 rfl rfl ?_
              refine mv_aload_n d_Reader_clause_122 rfl rfl ?_
              obtain ⟨_, b114, -⟩ := I19.1 _ _ t24
              refine mv_callV (kc' := 7) (ks' := 965) (As := [.ref o1]) (st9 := [.ref o1, .ref o0]) d_Reader_clause_123 lV_Reader_160 b114 rfl (tc_Reader_trustClause (d := (d + 18)) (x9 := x9) (o0 := o0) (o1 := o1) t24 t25 I19.start) rfl (Nat.le_of_ble_eq_true rfl) (Nat.le_of_ble_eq_true rfl) (Nat.le_of_ble_eq_true rfl) (hst := rfl) (fun b108r M109 n110 b108 => ?_)
              obtain ⟨T111, J112, v115, rfl, b116, b117⟩ := b108
              have I113 := I19.call J112 (tm_sub (by decide)) (Or.inl rfl)
              have t118 := J112.up t24
              have t119 := J112.up t25
              have q120 := J112.keep t24 (by decide) q26
              have q121 := J112.keep t25 (by decide) q96
              have t122 := J112.up t_a97
              have q123 := J112.keepL t_a97 (by decide) q104
              have := mz_hi v115
              refine mv_if_neZ (tgt := 131) (a := v115.toInt) d_Reader_clause_126 (by decide) rfl (fun b124 => ?_) (fun b124 => ?_)
              · refine mv_aload_n d_Reader_clause_131 rfl rfl ?_
                refine mv_bipush (v := 59) d_Reader_clause_132 (by decide) ?_
                obtain ⟨_, b131, -⟩ := I113.1 _ _ t118
                refine mv_callV (kc' := 7) (ks' := 965) (As := [.int 59]) (st9 := [.int 59, .ref o0]) d_Reader_clause_134 lV_Reader_63 b131 rfl (tc_Reader_sign (d := (d + 19)) (x9 := x9) (o0 := o0) (x1 := 59) t118 I113.start) rfl (Nat.le_of_ble_eq_true rfl) (Nat.le_of_ble_eq_true rfl) (Nat.le_of_ble_eq_true rfl) (hst := rfl) (fun b125r M126 n127 b125 => ?_)
                obtain ⟨T128, J129, v132, rfl, b133, b134⟩ := b125
                have I130 := I113.call J129 (tm_sub (by decide)) (Or.inl rfl)
                have t135 := J129.up t118
                have t136 := J129.up t119
                have q137 := J129.keep t118 (by decide) q120
                have q138 := J129.keep t119 (by decide) q121
                have t139 := J129.up t122
                have q140 := J129.keepL t122 (by decide) q123
                exact mv_iret d_Reader_clause_137 rfl (mz_nb (by omega) (by omega)) ⟨_, I130, _, rfl, by omega, by omega, fun _ => q137⟩
              · refine mv_iconst (v := 0) d_Reader_clause_129 (by decide) ?_
                exact mv_iret d_Reader_clause_130 rfl (by decide) ⟨_, I113, _, rfl, by decide, by decide, fun h => absurd h (by decide)⟩
            · refine mv_aload_n d_Reader_clause_110 rfl rfl ?_
              refine mv_aload_n d_Reader_clause_111 rfl rfl ?_
              obtain ⟨_, b147, -⟩ := I19.1 _ _ t24
              refine mv_callV (kc' := 7) (ks' := 965) (As := [.ref o1]) (st9 := [.ref o1, .ref o0]) d_Reader_clause_112 lV_Reader_156 b147 rfl (tc_Reader_markClause (d := (d + 18)) (x9 := x9) (o0 := o0) (o1 := o1) t24 t25 I19.start) rfl (Nat.le_of_ble_eq_true rfl) (Nat.le_of_ble_eq_true rfl) (Nat.le_of_ble_eq_true rfl) (hst := rfl) (fun b141r M142 n143 b141 => ?_)
              obtain ⟨T144, J145, v148, rfl, b149, b150⟩ := b141
              have I146 := I19.call J145 (tm_sub (by decide)) (Or.inl rfl)
              have t151 := J145.up t24
              have t152 := J145.up t25
              have q153 := J145.keep t24 (by decide) q26
              have q154 := J145.keep t25 (by decide) q96
              have t155 := J145.up t_a97
              have q156 := J145.keepL t_a97 (by decide) q104
              have := mz_hi v148
              refine mv_if_eqZ (tgt := 129) (a := v148.toInt) d_Reader_clause_115 (by decide) rfl (fun b157 => ?_) (fun b157 => ?_)
              · refine mv_iconst (v := 0) d_Reader_clause_129 (by decide) ?_
                exact mv_iret d_Reader_clause_130 rfl (by decide) ⟨_, I146, _, rfl, by decide, by decide, fun h => absurd h (by decide)⟩
              · refine mv_goto (tgt := 131) d_Reader_clause_118 (by decide) ?_
                refine mv_aload_n d_Reader_clause_131 rfl rfl ?_
                refine mv_bipush (v := 59) d_Reader_clause_132 (by decide) ?_
                obtain ⟨_, b164, -⟩ := I146.1 _ _ t151
                refine mv_callV (kc' := 7) (ks' := 965) (As := [.int 59]) (st9 := [.int 59, .ref o0]) d_Reader_clause_134 lV_Reader_63 b164 rfl (tc_Reader_sign (d := (d + 19)) (x9 := x9) (o0 := o0) (x1 := 59) t151 I146.start) rfl (Nat.le_of_ble_eq_true rfl) (Nat.le_of_ble_eq_true rfl) (Nat.le_of_ble_eq_true rfl) (hst := rfl) (fun b158r M159 n160 b158 => ?_)
                obtain ⟨T161, J162, v165, rfl, b166, b167⟩ := b158
                have I163 := I146.call J162 (tm_sub (by decide)) (Or.inl rfl)
                have t168 := J162.up t151
                have t169 := J162.up t152
                have q170 := J162.keep t151 (by decide) q153
                have q171 := J162.keep t152 (by decide) q154
                have t172 := J162.up t155
                have q173 := J162.keepL t155 (by decide) q156
                exact mv_iret d_Reader_clause_137 rfl (mz_nb (by omega) (by omega)) ⟨_, I163, _, rfl, by omega, by omega, fun _ => q170⟩
          · refine mv_aload_n d_Reader_clause_71 rfl rfl ?_
            refine mv_aload_n d_Reader_clause_72 rfl rfl ?_
            obtain ⟨_, b180, -⟩ := I19.1 _ _ t24
            refine mv_callV (kc' := 2) (ks' := 158) (As := [.ref o1]) (st9 := [.ref o1, .ref o0]) d_Reader_clause_73 lV_Reader_59 b180 rfl (tc_Reader_endText_q4 (d := d) (x9 := x9) (o0 := o0) (o1 := o1) t24 t25 (p := p) q26 (by omega) I19.start) rfl (Nat.le_of_ble_eq_true rfl) (Nat.le_of_ble_eq_true rfl) (Nat.le_of_ble_eq_true rfl) (hst := rfl) (fun b174r M175 n176 b174 => ?_)
            obtain ⟨T177, J178, b182⟩ := b174
            have I179 := I19.call J178 (tm_sub (by decide)) (Or.inl rfl)
            have t183 := J178.up t24
            have t184 := J178.up t25
            have q185 := J178.keep t25 (by decide) q96
            have t186 := J178.up t_a97
            have q187 := J178.keepL t_a97 (by decide) q104
            rcases b182 with rfl | ⟨a181, rfl, t_a181, o188⟩
            · refine mv_astoreN (lv' := [(5, .null), (4, .int v21), (3, .int v8), (0, .ref o0), (1, .ref o1), (2, .int x2)]) d_Reader_clause_76 (by decide) rfl ?_
              refine mv_aloadN d_Reader_clause_78 rfl ?_
              refine mv_ifnonnullN d_Reader_clause_80 ?_
              refine mv_iconst (v := 0) d_Reader_clause_83 (by decide) ?_
              exact mv_iret d_Reader_clause_84 rfl (by decide) ⟨_, I179, _, rfl, by decide, by decide, fun h => absurd h (by decide)⟩
            · refine mv_astore (lv' := [(5, .ref a181), (4, .int v21), (3, .int v8), (0, .ref o0), (1, .ref o1), (2, .int x2)]) d_Reader_clause_76 (by decide) rfl ?_
              refine mv_aload d_Reader_clause_78 rfl ?_
              refine mv_ifnonnull (tgt := 85) d_Reader_clause_80 (by decide) ?_
              refine mv_aload_n d_Reader_clause_85 rfl rfl ?_
              refine tr_getK (k := 11) q185 d_Reader_clause_86 f_Reader_136_6 ?_
              refine tr_new (kc' := 1) (ks' := 154) tm_okF I179 d_Reader_clause_89 n_Reader_147 (Nat.le_of_ble_eq_true rfl) (Nat.le_of_ble_eq_true rfl) (fun T189 M190 I191 t_x192 m193 h194 u195 K196 => ?_)
              have q197 := tm_at.eq (K196 _ _ t184) q185
              have t198 := u195 _ _ t186
              have t199 := u195 _ _ t184
              have q200 := tm_at.eq (K196 _ _ t186) q187
              have q201 := tm_at.eq (K196 _ _ t183) o188
              have t202 := u195 _ _ t183
              have t203 := u195 _ _ t_a181
              refine mv_dup d_Reader_clause_92 rfl ?_
              refine mv_aload d_Reader_clause_93 rfl ?_
              refine mv_callI (kc' := 1) (ks' := 154) (As := [.ref a181]) (st9 := [.ref a181, .ref n176, .ref n176, .ref a97]) d_Reader_clause_95 lI_Reader_149 (tc_End_init (d := (d + 19)) (o0 := n176) (o1 := a181) t_x192 t203 m193 I191.start) rfl (Nat.le_of_ble_eq_true rfl) (Nat.le_of_ble_eq_true rfl) (Nat.le_of_ble_eq_true rfl) (hst := rfl) (fun b204r M205 n206 b204 => ?_)
              obtain ⟨T207, J208, rfl, m210⟩ := b204
              have I209 := I191.call J208 (tm_sub (by decide)) (Or.inr h194)
              have t211 := J208.up t_x192
              have t212 := J208.up t203
              have t213 := J208.up t202
              have t214 := J208.up t199
              have t215 := J208.up t198
              have q216 := J208.keep t199 (by decide) q197
              have q217 := J208.keepL t198 (by decide) q200
              have q218 := J208.keep t202 (by decide) q201
              obtain ⟨T219, I220, t_x221, u222⟩ := I209.sealO tm_okF t211 h194 m210 (fun _ z9 => (tm_fs_cons ⟨_, rfl, z9 _ _ t212 (Nat.le_of_ble_eq_true rfl)⟩ (tm_fs_cons ⟨_, rfl⟩ (tm_fs_cons ⟨_, rfl⟩ (tm_fs_cons ⟨_, rfl⟩ tm_fs_nil)))))
              have t223 := u222 _ _ t215 (tm_dif t215 t211 rfl)
              have t224 := u222 _ _ t214 (tm_dif t214 t211 rfl)
              have t225 := u222 _ _ t213 (tm_dif t213 t211 rfl)
              have t226 := u222 _ _ t212 (tm_dif t212 t211 rfl)
              obtain ⟨m228, e229, N230, f231, h227⟩ := tm_lsn I220 t223 q217
              refine mv_callV (kc' := 0) (ks' := 0) (As := [.ref n176]) (st9 := [.ref n176, .ref a97]) d_Reader_clause_98 lV_Reader_152 h227.1 rfl (tc_AL_addT (FT := tm_FT) (W := tm_in [5003]) (x := x9) (d := (d + 14)) tm_okF t223 t_x221 q217 (show _ < (72 : Int) by omega) rfl (C := "TrustDesk$End") (T9 := kF_End) (N9 := 4) rfl (mj_in1 (List.mem_of_getElem? (i := 2106) (by decide +kernel)) rfl) (by decide) (by decide) I220.start) rfl (Nat.le_of_ble_eq_true rfl) (Nat.le_of_ble_eq_true rfl) (Nat.le_of_ble_eq_true rfl) (hst := rfl) (fun b232r M233 n234 b232 => ?_)
              obtain ⟨T235, J236, rfl, q238⟩ := b232
              have I237 := I220.call J236 (tm_sub (by decide)) (Or.inl rfl)
              have t239 := J236.up t223
              have t240 := J236.up t226
              have t241 := J236.up t225
              have t242 := J236.up t224
              have q243 := J236.keep t224 (by decide) q216
              have q244 := J236.keep t225 (by decide) q218
              have b245 : (n103 + 1).toInt = n103.toInt + 1 := mz_addn 1 1 (by decide) (by have := mz_lo n103; omega) (by omega)
              refine mv_pop d_Reader_clause_101 rfl ?_
              refine mv_goto (tgt := 131) d_Reader_clause_102 (by decide) ?_
              refine mv_aload_n d_Reader_clause_131 rfl rfl ?_
              refine mv_bipush (v := 59) d_Reader_clause_132 (by decide) ?_
              obtain ⟨_, b252, -⟩ := I237.1 _ _ t241
              refine mv_callV (kc' := 0) (ks' := 0) (As := [.int 59]) (st9 := [.int 59, .ref o0]) d_Reader_clause_134 lV_Reader_63 b252 rfl (tc_Reader_sign (d := (d + 19)) (x9 := x9) (o0 := o0) (x1 := 59) t241 I237.start) rfl (Nat.le_of_ble_eq_true rfl) (Nat.le_of_ble_eq_true rfl) (Nat.le_of_ble_eq_true rfl) (hst := rfl) (fun b246r M247 n248 b246 => ?_)
              obtain ⟨T249, J250, v253, rfl, b254, b255⟩ := b246
              have I251 := I237.call J250 (tm_sub (by decide)) (Or.inl rfl)
              have t256 := J250.up t240
              have t257 := J250.up t241
              have t258 := J250.up t242
              have q259 := J250.keep t242 (by decide) q243
              have t260 := J250.up t239
              have q261 := J250.keep t241 (by decide) q244
              have q262 := J250.keepL t239 (by decide) q238
              exact mv_iret d_Reader_clause_137 rfl (mz_nb (by omega) (by omega)) ⟨_, I251, _, rfl, by omega, by omega, fun _ => q261⟩
        · refine mv_aload_n d_Reader_clause_61 rfl rfl ?_
          refine mv_iconst (v := 4) d_Reader_clause_62 (by decide) ?_
          obtain ⟨_, b269, -⟩ := I19.1 _ _ t24
          refine mv_callV (kc' := 7) (ks' := 965) (As := [.int 4]) (st9 := [.int 4, .ref o0]) d_Reader_clause_63 lV_Reader_56 b269 rfl (tc_Reader_refuse (d := (d + 20)) (x9 := x9) (o0 := o0) (x1 := 4) t24 I19.start) rfl (Nat.le_of_ble_eq_true rfl) (Nat.le_of_ble_eq_true rfl) (Nat.le_of_ble_eq_true rfl) (hst := rfl) (fun b263r M264 n265 b263 => ?_)
          obtain ⟨T266, J267, rfl⟩ := b263
          have I268 := I19.call J267 (tm_sub (by decide)) (Or.inl rfl)
          have t270 := J267.up t24
          have t271 := J267.up t25
          have q272 := J267.keep t24 (by decide) q26
          have q273 := J267.keep t25 (by decide) q96
          have t274 := J267.up t_a97
          have q275 := J267.keepL t_a97 (by decide) q104
          exact mv_iret d_Reader_clause_66 rfl (by decide) ⟨_, I268, _, rfl, by decide, by decide, fun h => absurd h (by decide)⟩
  · refine mv_iload d_Reader_clause_19 rfl ?_
    have := mz_hi v21
    refine mv_if_neZ (tgt := 39) (a := v21.toInt) d_Reader_clause_21 (by decide) rfl (fun b276 => ?_) (fun b276 => ?_)
    · refine mv_iload_n d_Reader_clause_39 rfl rfl ?_
      refine mv_bipush (v := 12) d_Reader_clause_40 (by decide) ?_
      have := mz_hi x2
      refine mv_icmp_geZ (tgt := 61) (a := x2.toInt) (b := 12) d_Reader_clause_42 (by decide) rfl (by decide) (fun b277 => ?_) (fun b277 => ?_)
      · refine mv_aload_n d_Reader_clause_61 rfl rfl ?_
        refine mv_iconst (v := 4) d_Reader_clause_62 (by decide) ?_
        obtain ⟨_, b284, -⟩ := I19.1 _ _ t24
        refine mv_callV (kc' := 7) (ks' := 965) (As := [.int 4]) (st9 := [.int 4, .ref o0]) d_Reader_clause_63 lV_Reader_56 b284 rfl (tc_Reader_refuse (d := (d + 20)) (x9 := x9) (o0 := o0) (x1 := 4) t24 I19.start) rfl (Nat.le_of_ble_eq_true rfl) (Nat.le_of_ble_eq_true rfl) (Nat.le_of_ble_eq_true rfl) (hst := rfl) (fun b278r M279 n280 b278 => ?_)
        obtain ⟨T281, J282, rfl⟩ := b278
        have I283 := I19.call J282 (tm_sub (by decide)) (Or.inl rfl)
        have t285 := J282.up t24
        have t286 := J282.up t25
        have q287 := J282.keep t24 (by decide) q26
        exact mv_iret d_Reader_clause_66 rfl (by decide) ⟨_, I283, _, rfl, by decide, by decide, fun h => absurd h (by decide)⟩
      · refine mv_iload_n d_Reader_clause_45 rfl rfl ?_
        have := mz_hi v8
        refine mv_if_eqZ (tgt := 67) (a := v8.toInt) d_Reader_clause_46 (by decide) rfl (fun b288 => ?_) (fun b288 => absurd b288 (by omega))
        refine mv_iload_n d_Reader_clause_67 rfl rfl ?_
        have := mz_hi v8
        refine mv_if_eqZ (tgt := 105) (a := v8.toInt) d_Reader_clause_68 (by decide) rfl (fun b289 => ?_) (fun b289 => absurd b289 (by omega))
        refine mv_iload d_Reader_clause_105 rfl ?_
        have := mz_hi v21
        refine mv_if_eqZ (tgt := 121) (a := v21.toInt) d_Reader_clause_107 (by decide) rfl (fun b290 => ?_) (fun b290 => ?_)
        · refine mv_aload_n d_Reader_clause_121 rfl rfl ?_
          refine mv_aload_n d_Reader_clause_122 rfl rfl ?_
          obtain ⟨_, b297, -⟩ := I19.1 _ _ t24
          refine mv_callV (kc' := 7) (ks' := 965) (As := [.ref o1]) (st9 := [.ref o1, .ref o0]) d_Reader_clause_123 lV_Reader_160 b297 rfl (tc_Reader_trustClause (d := (d + 18)) (x9 := x9) (o0 := o0) (o1 := o1) t24 t25 I19.start) rfl (Nat.le_of_ble_eq_true rfl) (Nat.le_of_ble_eq_true rfl) (Nat.le_of_ble_eq_true rfl) (hst := rfl) (fun b291r M292 n293 b291 => ?_)
          obtain ⟨T294, J295, v298, rfl, b299, b300⟩ := b291
          have I296 := I19.call J295 (tm_sub (by decide)) (Or.inl rfl)
          have t301 := J295.up t24
          have t302 := J295.up t25
          have q303 := J295.keep t24 (by decide) q26
          have := mz_hi v298
          refine mv_if_neZ (tgt := 131) (a := v298.toInt) d_Reader_clause_126 (by decide) rfl (fun b304 => ?_) (fun b304 => ?_)
          · refine mv_aload_n d_Reader_clause_131 rfl rfl ?_
            refine mv_bipush (v := 59) d_Reader_clause_132 (by decide) ?_
            obtain ⟨_, b311, -⟩ := I296.1 _ _ t301
            refine mv_callV (kc' := 7) (ks' := 965) (As := [.int 59]) (st9 := [.int 59, .ref o0]) d_Reader_clause_134 lV_Reader_63 b311 rfl (tc_Reader_sign (d := (d + 19)) (x9 := x9) (o0 := o0) (x1 := 59) t301 I296.start) rfl (Nat.le_of_ble_eq_true rfl) (Nat.le_of_ble_eq_true rfl) (Nat.le_of_ble_eq_true rfl) (hst := rfl) (fun b305r M306 n307 b305 => ?_)
            obtain ⟨T308, J309, v312, rfl, b313, b314⟩ := b305
            have I310 := I296.call J309 (tm_sub (by decide)) (Or.inl rfl)
            have t315 := J309.up t301
            have t316 := J309.up t302
            have q317 := J309.keep t301 (by decide) q303
            exact mv_iret d_Reader_clause_137 rfl (mz_nb (by omega) (by omega)) ⟨_, I310, _, rfl, by omega, by omega, fun _ => q317⟩
          · refine mv_iconst (v := 0) d_Reader_clause_129 (by decide) ?_
            exact mv_iret d_Reader_clause_130 rfl (by decide) ⟨_, I296, _, rfl, by decide, by decide, fun h => absurd h (by decide)⟩
        · refine mv_aload_n d_Reader_clause_110 rfl rfl ?_
          refine mv_aload_n d_Reader_clause_111 rfl rfl ?_
          obtain ⟨_, b324, -⟩ := I19.1 _ _ t24
          refine mv_callV (kc' := 7) (ks' := 965) (As := [.ref o1]) (st9 := [.ref o1, .ref o0]) d_Reader_clause_112 lV_Reader_156 b324 rfl (tc_Reader_markClause (d := (d + 18)) (x9 := x9) (o0 := o0) (o1 := o1) t24 t25 I19.start) rfl (Nat.le_of_ble_eq_true rfl) (Nat.le_of_ble_eq_true rfl) (Nat.le_of_ble_eq_true rfl) (hst := rfl) (fun b318r M319 n320 b318 => ?_)
          obtain ⟨T321, J322, v325, rfl, b326, b327⟩ := b318
          have I323 := I19.call J322 (tm_sub (by decide)) (Or.inl rfl)
          have t328 := J322.up t24
          have t329 := J322.up t25
          have q330 := J322.keep t24 (by decide) q26
          have := mz_hi v325
          refine mv_if_eqZ (tgt := 129) (a := v325.toInt) d_Reader_clause_115 (by decide) rfl (fun b331 => ?_) (fun b331 => ?_)
          · refine mv_iconst (v := 0) d_Reader_clause_129 (by decide) ?_
            exact mv_iret d_Reader_clause_130 rfl (by decide) ⟨_, I323, _, rfl, by decide, by decide, fun h => absurd h (by decide)⟩
          · refine mv_goto (tgt := 131) d_Reader_clause_118 (by decide) ?_
            refine mv_aload_n d_Reader_clause_131 rfl rfl ?_
            refine mv_bipush (v := 59) d_Reader_clause_132 (by decide) ?_
            obtain ⟨_, b338, -⟩ := I323.1 _ _ t328
            refine mv_callV (kc' := 7) (ks' := 965) (As := [.int 59]) (st9 := [.int 59, .ref o0]) d_Reader_clause_134 lV_Reader_63 b338 rfl (tc_Reader_sign (d := (d + 19)) (x9 := x9) (o0 := o0) (x1 := 59) t328 I323.start) rfl (Nat.le_of_ble_eq_true rfl) (Nat.le_of_ble_eq_true rfl) (Nat.le_of_ble_eq_true rfl) (hst := rfl) (fun b332r M333 n334 b332 => ?_)
            obtain ⟨T335, J336, v339, rfl, b340, b341⟩ := b332
            have I337 := I323.call J336 (tm_sub (by decide)) (Or.inl rfl)
            have t342 := J336.up t328
            have t343 := J336.up t329
            have q344 := J336.keep t328 (by decide) q330
            exact mv_iret d_Reader_clause_137 rfl (mz_nb (by omega) (by omega)) ⟨_, I337, _, rfl, by omega, by omega, fun _ => q344⟩
    · refine mv_aload_n d_Reader_clause_24 rfl rfl ?_
      refine mv_bipush (v := 25) d_Reader_clause_25 (by decide) ?_
      obtain ⟨_, b351, -⟩ := I19.1 _ _ t24
      refine mv_callV (kc' := 7) (ks' := 965) (As := [.int 25]) (st9 := [.int 25, .ref o0]) d_Reader_clause_27 lV_Reader_52 b351 rfl (tc_Reader_isWord (d := (d + 20)) (x9 := x9) (o0 := o0) (x1 := 25) t24 I19.start) rfl (Nat.le_of_ble_eq_true rfl) (Nat.le_of_ble_eq_true rfl) (Nat.le_of_ble_eq_true rfl) (hst := rfl) (fun b345r M346 n347 b345 => ?_)
      obtain ⟨T348, J349, v352, rfl, b353, b354⟩ := b345
      have I350 := I19.call J349 (tm_sub (by decide)) (Or.inl rfl)
      have t355 := J349.up t24
      have t356 := J349.up t25
      have q357 := J349.keep t24 (by decide) q26
      have := mz_hi v352
      refine mv_if_neZ (tgt := 39) (a := v352.toInt) d_Reader_clause_30 (by decide) rfl (fun b358 => ?_) (fun b358 => ?_)
      · refine mv_iload_n d_Reader_clause_39 rfl rfl ?_
        refine mv_bipush (v := 12) d_Reader_clause_40 (by decide) ?_
        have := mz_hi x2
        refine mv_icmp_geZ (tgt := 61) (a := x2.toInt) (b := 12) d_Reader_clause_42 (by decide) rfl (by decide) (fun b359 => ?_) (fun b359 => ?_)
        · refine mv_aload_n d_Reader_clause_61 rfl rfl ?_
          refine mv_iconst (v := 4) d_Reader_clause_62 (by decide) ?_
          obtain ⟨_, b366, -⟩ := I350.1 _ _ t355
          refine mv_callV (kc' := 7) (ks' := 965) (As := [.int 4]) (st9 := [.int 4, .ref o0]) d_Reader_clause_63 lV_Reader_56 b366 rfl (tc_Reader_refuse (d := (d + 20)) (x9 := x9) (o0 := o0) (x1 := 4) t355 I350.start) rfl (Nat.le_of_ble_eq_true rfl) (Nat.le_of_ble_eq_true rfl) (Nat.le_of_ble_eq_true rfl) (hst := rfl) (fun b360r M361 n362 b360 => ?_)
          obtain ⟨T363, J364, rfl⟩ := b360
          have I365 := I350.call J364 (tm_sub (by decide)) (Or.inl rfl)
          have t367 := J364.up t355
          have t368 := J364.up t356
          have q369 := J364.keep t355 (by decide) q357
          exact mv_iret d_Reader_clause_66 rfl (by decide) ⟨_, I365, _, rfl, by decide, by decide, fun h => absurd h (by decide)⟩
        · refine mv_iload_n d_Reader_clause_45 rfl rfl ?_
          have := mz_hi v8
          refine mv_if_eqZ (tgt := 67) (a := v8.toInt) d_Reader_clause_46 (by decide) rfl (fun b370 => ?_) (fun b370 => absurd b370 (by omega))
          refine mv_iload_n d_Reader_clause_67 rfl rfl ?_
          have := mz_hi v8
          refine mv_if_eqZ (tgt := 105) (a := v8.toInt) d_Reader_clause_68 (by decide) rfl (fun b371 => ?_) (fun b371 => absurd b371 (by omega))
          refine mv_iload d_Reader_clause_105 rfl ?_
          have := mz_hi v21
          refine mv_if_eqZ (tgt := 121) (a := v21.toInt) d_Reader_clause_107 (by decide) rfl (fun b372 => ?_) (fun b372 => absurd b372 (by omega))
          refine mv_aload_n d_Reader_clause_121 rfl rfl ?_
          refine mv_aload_n d_Reader_clause_122 rfl rfl ?_
          obtain ⟨_, b379, -⟩ := I350.1 _ _ t355
          refine mv_callV (kc' := 7) (ks' := 965) (As := [.ref o1]) (st9 := [.ref o1, .ref o0]) d_Reader_clause_123 lV_Reader_160 b379 rfl (tc_Reader_trustClause (d := (d + 18)) (x9 := x9) (o0 := o0) (o1 := o1) t355 t356 I350.start) rfl (Nat.le_of_ble_eq_true rfl) (Nat.le_of_ble_eq_true rfl) (Nat.le_of_ble_eq_true rfl) (hst := rfl) (fun b373r M374 n375 b373 => ?_)
          obtain ⟨T376, J377, v380, rfl, b381, b382⟩ := b373
          have I378 := I350.call J377 (tm_sub (by decide)) (Or.inl rfl)
          have t383 := J377.up t355
          have t384 := J377.up t356
          have q385 := J377.keep t355 (by decide) q357
          have := mz_hi v380
          refine mv_if_neZ (tgt := 131) (a := v380.toInt) d_Reader_clause_126 (by decide) rfl (fun b386 => ?_) (fun b386 => ?_)
          · refine mv_aload_n d_Reader_clause_131 rfl rfl ?_
            refine mv_bipush (v := 59) d_Reader_clause_132 (by decide) ?_
            obtain ⟨_, b393, -⟩ := I378.1 _ _ t383
            refine mv_callV (kc' := 7) (ks' := 965) (As := [.int 59]) (st9 := [.int 59, .ref o0]) d_Reader_clause_134 lV_Reader_63 b393 rfl (tc_Reader_sign (d := (d + 19)) (x9 := x9) (o0 := o0) (x1 := 59) t383 I378.start) rfl (Nat.le_of_ble_eq_true rfl) (Nat.le_of_ble_eq_true rfl) (Nat.le_of_ble_eq_true rfl) (hst := rfl) (fun b387r M388 n389 b387 => ?_)
            obtain ⟨T390, J391, v394, rfl, b395, b396⟩ := b387
            have I392 := I378.call J391 (tm_sub (by decide)) (Or.inl rfl)
            have t397 := J391.up t383
            have t398 := J391.up t384
            have q399 := J391.keep t383 (by decide) q385
            exact mv_iret d_Reader_clause_137 rfl (mz_nb (by omega) (by omega)) ⟨_, I392, _, rfl, by omega, by omega, fun _ => q399⟩
          · refine mv_iconst (v := 0) d_Reader_clause_129 (by decide) ?_
            exact mv_iret d_Reader_clause_130 rfl (by decide) ⟨_, I378, _, rfl, by decide, by decide, fun h => absurd h (by decide)⟩
      · refine mv_aload_n d_Reader_clause_33 rfl rfl ?_
        refine mv_iconst (v := 1) d_Reader_clause_34 (by decide) ?_
        obtain ⟨_, b406, -⟩ := I350.1 _ _ t355
        refine mv_callV (kc' := 7) (ks' := 965) (As := [.int 1]) (st9 := [.int 1, .ref o0]) d_Reader_clause_35 lV_Reader_56 b406 rfl (tc_Reader_refuse (d := (d + 20)) (x9 := x9) (o0 := o0) (x1 := 1) t355 I350.start) rfl (Nat.le_of_ble_eq_true rfl) (Nat.le_of_ble_eq_true rfl) (Nat.le_of_ble_eq_true rfl) (hst := rfl) (fun b400r M401 n402 b400 => ?_)
        obtain ⟨T403, J404, rfl⟩ := b400
        have I405 := I350.call J404 (tm_sub (by decide)) (Or.inl rfl)
        have t407 := J404.up t355
        have t408 := J404.up t356
        have q409 := J404.keep t355 (by decide) q357
        exact mv_iret d_Reader_clause_38 rfl (by decide) ⟨_, I405, _, rfl, by decide, by decide, fun h => absurd h (by decide)⟩
theorem lV_Reader_48 : mj_lV "TrustDesk$Reader" 48 kY_Reader_clause 2 := ⟨⟨(mj_in1 (List.mem_of_getElem? (i := 730) (by decide +kernel)) rfl), (mj_in1 (List.mem_of_getElem? (i := 3) (by decide +kernel)) rfl), (mj_in1 (List.mem_of_getElem? (i := 733) (by decide +kernel)) rfl), by decide, rfl, by decide⟩, (mj_in1 (List.mem_of_getElem? (i := 732) (by decide +kernel)) rfl), (mj_in (List.mem_append_left _ (List.mem_of_getElem? (i := 35) (by decide +kernel))) rfl)⟩
theorem d_Reader_readDeed_27 : decode kY_Reader_readDeed.2.1 27 = .ok (.ifCond .ne 5, 3) := by decide +kernel
theorem d_Reader_readDeed_32 : decode kY_Reader_readDeed.2.1 32 = .ok (.iinc 2 1, 3) := by decide +kernel
theorem d_Reader_readDeed_35 : decode kY_Reader_readDeed.2.1 35 = .ok (.goto (-27), 3) := by decide +kernel
theorem d_Reader_readDeed_30 : decode kY_Reader_readDeed.2.1 30 = .ok (.iconst 0, 1) := by decide +kernel
theorem d_Reader_readDeed_31 : decode kY_Reader_readDeed.2.1 31 = .ok (.ireturn, 1) := by decide +kernel
def w_Reader_readDeed : List Nat := [604, 605, 606, 901, 902, 908, 909, 910, 911, 912, 913, 914, 915, 916, 918, 954, 955, 956, 957, 967, 5003]
theorem tc_Reader_readDeed {g : mj_G} {l : Launch} {d : Nat} {T0 : tm_H} {M0 : mj_M} {n0 x9 : Nat} {o0 : Nat} {o1 : Nat} (h_o0 : T0 o0 = some (0, 9, 0)) (h_o1 : T0 o1 = some (0, 6, 0)) (I0 : tm_I tm_FT (tm_in w_Reader_readDeed) x9 T0 M0 n0 T0 M0 n0) : mj_Met g l kY_Reader_readDeed (d + 22) [.ref o0, .ref o1] M0 n0 98 13580 (tm_Q tm_FT (tm_in w_Reader_readDeed) x9 T0 M0 n0 (fun r _ _ => ∃ v : Int32, r = some (.int v) ∧ 0 ≤ v.toInt ∧ v.toInt ≤ 1)) := by
  refine mj_enter (by decide) (Nat.le_of_ble_eq_true rfl) ?_
  refine mv_aload_n d_Reader_readDeed_0 rfl rfl ?_
  refine mv_bipush (v := 10) d_Reader_readDeed_1 (by decide) ?_
  obtain ⟨_, b7, -⟩ := I0.1 _ _ h_o0
  refine mv_callV (kc' := 98) (ks' := 13580) (As := [.int 10]) (st9 := [.int 10, .ref o0]) d_Reader_readDeed_3 lV_Reader_37 b7 rfl (tc_Reader_begin (d := (d + 12)) (x9 := x9) (o0 := o0) (x1 := 10) h_o0 I0.start) rfl (Nat.le_of_ble_eq_true rfl) (Nat.le_of_ble_eq_true rfl) (Nat.le_of_ble_eq_true rfl) (hst := rfl) (fun b1r M2 n3 b1 => ?_)
  obtain ⟨T4, J5, rfl, o8⟩ := b1
  have I6 := I0.call J5 (tm_sub (by decide)) (Or.inl rfl)
  have t9 := J5.up h_o0
  have t10 := J5.up h_o1
  refine mv_iconst (v := 0) d_Reader_readDeed_6 (by decide) ?_
  refine mv_istore_n (lv' := [(2, .int 0), (0, .ref o0), (1, .ref o1)]) d_Reader_readDeed_7 rfl (by decide) rfl ?_
  have L8_11 : ∀ (k : Nat) (i2_11 : Int32) (T_11 : tm_H) (M_11 : mj_M) (n_11 : Nat), tm_I tm_FT (tm_in w_Reader_readDeed) x9 T0 M0 n0 T_11 M_11 n_11 → T_11 o0 = some (0, 9, 0) → T_11 o1 = some (0, 6, 0) → i2_11.toInt ≤ 13 → 0 ≤ i2_11.toInt → tm_at M_11 o0 9 16 (.int 0) → 13 - i2_11.toInt < (k : Int) → mj_V g l kY_Reader_readDeed (d + 22) 8 [(2, .int i2_11), (0, .ref o0), (1, .ref o1)] [] M_11 n_11 (k * 7) (k * 970) (tm_Q tm_FT (tm_in w_Reader_readDeed) x9 T0 M0 n0 (fun r _ _ => ∃ v : Int32, r = some (.int v) ∧ 0 ≤ v.toInt ∧ v.toInt ≤ 1)) := by
    intro k11
    induction k11 with
    | zero =>
      intro i2_11 T_11 M_11 n_11 I_11 h_q0_11 h_q1_11 iv0_11 iv1_11 kp0_11 hk11
      have := mz_hi i2_11
      exfalso; omega
    | succ k11 ih11 =>
      intro i2_11 T_11 M_11 n_11 I_11 h_q0_11 h_q1_11 iv0_11 iv1_11 kp0_11 hk11
      refine mv_iload_n d_Reader_readDeed_8 rfl rfl ?_
      refine mv_bipush (v := 12) d_Reader_readDeed_9 (by decide) ?_
      have := mz_hi i2_11
      refine mv_icmp_gtZ (tgt := 38) (a := i2_11.toInt) (b := 12) d_Reader_readDeed_11 (by decide) rfl (by decide) (fun b12 => ?_) (fun b12 => ?_)
      · refine mv_iconst (v := 1) d_Reader_readDeed_38 (by decide) ?_
        exact mv_iret d_Reader_readDeed_39 rfl (by decide) ⟨_, I_11, _, rfl, by decide, by decide⟩
      · refine mv_aload_n d_Reader_readDeed_14 rfl rfl ?_
        obtain ⟨v14, q13⟩ := tm_atI I_11 h_q0_11 (k := 10) rfl
        refine tr_getK q13 d_Reader_readDeed_15 f_Reader_41_9 ?_
        have := mz_hi v14
        refine mv_if_eqZ (tgt := 38) (a := v14.toInt) d_Reader_readDeed_18 (by decide) rfl (fun b15 => ?_) (fun b15 => ?_)
        · refine mv_iconst (v := 1) d_Reader_readDeed_38 (by decide) ?_
          exact mv_iret d_Reader_readDeed_39 rfl (by decide) ⟨_, I_11, _, rfl, by decide, by decide⟩
        · refine mv_aload_n d_Reader_readDeed_21 rfl rfl ?_
          refine mv_aload_n d_Reader_readDeed_22 rfl rfl ?_
          refine mv_iload_n d_Reader_readDeed_23 rfl rfl ?_
          obtain ⟨_, b22, -⟩ := I_11.1 _ _ h_q0_11
          refine mv_callV (kc' := (k11 * 7 + 0)) (ks' := (k11 * 970 + 5)) (As := [.ref o1, .int i2_11]) (st9 := [.int i2_11, .ref o1, .ref o0]) d_Reader_readDeed_24 lV_Reader_48 b22 rfl (tc_Reader_clause_q4 (d := d) (x9 := x9) (o0 := o0) (o1 := o1) (x2 := i2_11) h_q0_11 h_q1_11 (p := 0) kp0_11 (by decide) I_11.start) rfl (by first | exact Nat.le_of_ble_eq_true rfl | omega) (by first | exact Nat.le_of_ble_eq_true rfl | omega) (by first | exact Nat.le_of_ble_eq_true rfl | omega) (hst := rfl) (fun b16r M17 n18 b16 => ?_)
          obtain ⟨T19, J20, v23, rfl, b24, b25, o26⟩ := b16
          have I21 := I_11.call J20 (tm_sub (by decide)) (Or.inl rfl)
          have t27 := J20.up h_q0_11
          have t28 := J20.up h_q1_11
          have := mz_hi v23
          refine mv_if_neZ (tgt := 32) (a := v23.toInt) d_Reader_readDeed_27 (by decide) rfl (fun b29 => ?_) (fun b29 => ?_)
          · have q30 := o26 (by omega)
            refine mv_iinc (v := (i2_11 + 1)) (lv' := [(2, .int (i2_11 + 1)), (0, .ref o0), (1, .ref o1)]) d_Reader_readDeed_32 rfl rfl (by decide) rfl ?_
            refine mv_goto (tgt := 8) d_Reader_readDeed_35 (by decide) ?_
            have b31 : (i2_11 + 1).toInt = i2_11.toInt + 1 := mz_addn 1 1 (by decide) (by have := mz_lo i2_11; omega) (by have := mz_hi i2_11; omega)
            exact mv_less (by omega) (by omega) (ih11 (i2_11 + 1) T19 M17 n18 I21 t27 t28 (by first | omega | decide) (by first | omega | decide) q30 (by omega))
          · refine mv_iconst (v := 0) d_Reader_readDeed_30 (by decide) ?_
            exact mv_iret d_Reader_readDeed_31 rfl (by decide) ⟨_, I21, _, rfl, by decide, by decide⟩
  exact mv_less (Nat.le_of_ble_eq_true rfl) (Nat.le_of_ble_eq_true rfl) (L8_11 14 0 T4 M2 n3 I6 t9 t10 (by first | omega | decide) (by first | omega | decide) o8 (by show (13 - (0 : Int) : Int) < _; decide))
theorem lV_TrustDesk_128 : mj_lV "TrustDesk" 128 kY_Reader_readDeed 1 := ⟨⟨(mj_in1 (List.mem_of_getElem? (i := 726) (by decide +kernel)) rfl), (mj_in1 (List.mem_of_getElem? (i := 3) (by decide +kernel)) rfl), (mj_in1 (List.mem_of_getElem? (i := 729) (by decide +kernel)) rfl), by decide, rfl, by decide⟩, (mj_in1 (List.mem_of_getElem? (i := 727) (by decide +kernel)) rfl), (mj_in1 (List.mem_of_getElem? (i := 728) (by decide +kernel)) rfl)⟩
theorem d_TrustDesk_fund_60 : decode kY_TrustDesk_fund.2.1 60 = .ok (.istore 4, 2) := by decide +kernel
theorem d_TrustDesk_fund_62 : decode kY_TrustDesk_fund.2.1 62 = .ok (.aload_n 0, 1) := by decide +kernel
theorem d_TrustDesk_fund_63 : decode kY_TrustDesk_fund.2.1 63 = .ok (.getfield 19, 3) := by decide +kernel
theorem d_TrustDesk_fund_66 : decode kY_TrustDesk_fund.2.1 66 = .ok (.iconst 0, 1) := by decide +kernel
theorem d_TrustDesk_fund_67 : decode kY_TrustDesk_fund.2.1 67 = .ok (.putfield 88, 3) := by decide +kernel
theorem d_TrustDesk_fund_70 : decode kY_TrustDesk_fund.2.1 70 = .ok (.iload 4, 2) := by decide +kernel
theorem d_TrustDesk_fund_72 : decode kY_TrustDesk_fund.2.1 72 = .ok (.ifCond .ne 13, 3) := by decide +kernel
theorem d_TrustDesk_fund_85 : decode kY_TrustDesk_fund.2.1 85 = .ok (.aload_n 0, 1) := by decide +kernel
theorem d_TrustDesk_fund_86 : decode kY_TrustDesk_fund.2.1 86 = .ok (.getfield 53, 3) := by decide +kernel
theorem d_TrustDesk_fund_89 : decode kY_TrustDesk_fund.2.1 89 = .ok (.aload_n 3, 1) := by decide +kernel
theorem d_TrustDesk_fund_90 : decode kY_TrustDesk_fund.2.1 90 = .ok (.invokevirtual 107, 3) := by decide +kernel
theorem d_TrustDesk_fund_93 : decode kY_TrustDesk_fund.2.1 93 = .ok (.pop, 1) := by decide +kernel
theorem d_TrustDesk_fund_94 : decode kY_TrustDesk_fund.2.1 94 = .ok (.aload_n 3, 1) := by decide +kernel
theorem d_TrustDesk_fund_95 : decode kY_TrustDesk_fund.2.1 95 = .ok (.getfield 132, 3) := by decide +kernel
theorem d_TrustDesk_fund_98 : decode kY_TrustDesk_fund.2.1 98 = .ok (.ireturn, 1) := by decide +kernel
theorem d_TrustDesk_fund_75 : decode kY_TrustDesk_fund.2.1 75 = .ok (.iconst (-1), 1) := by decide +kernel
theorem d_TrustDesk_fund_76 : decode kY_TrustDesk_fund.2.1 76 = .ok (.aload_n 0, 1) := by decide +kernel
theorem d_TrustDesk_fund_77 : decode kY_TrustDesk_fund.2.1 77 = .ok (.getfield 19, 3) := by decide +kernel
theorem d_TrustDesk_fund_80 : decode kY_TrustDesk_fund.2.1 80 = .ok (.getfield 104, 3) := by decide +kernel
theorem d_TrustDesk_fund_83 : decode kY_TrustDesk_fund.2.1 83 = .ok (.isub, 1) := by decide +kernel
theorem d_TrustDesk_fund_84 : decode kY_TrustDesk_fund.2.1 84 = .ok (.ireturn, 1) := by decide +kernel
def w_TrustDesk_fund : List Nat := [604, 605, 606, 662, 900, 901, 902, 908, 909, 910, 911, 912, 913, 914, 915, 916, 918, 954, 955, 956, 957, 967, 5003, 5006]
theorem tc_TrustDesk_fund {g : mj_G} {l : Launch} {d : Nat} {T0 : tm_H} {M0 : mj_M} {n0 x9 : Nat} {o0 : Nat} {x1 : Int32} {x2 : Int32} (h_o0 : T0 o0 = some (0, 12, 0)) (I0 : tm_I tm_FT (tm_in w_TrustDesk_fund) x9 T0 M0 n0 T0 M0 n0) : mj_Met g l kY_TrustDesk_fund (d + 23) [.ref o0, .int x1, .int x2] M0 n0 104 13845 (tm_Q tm_FT (tm_in w_TrustDesk_fund) x9 T0 M0 n0 (fun r _ _ => ∃ v : Int32, r = some (.int v))) := by
  refine mj_enter (by decide) (Nat.le_of_ble_eq_true rfl) ?_
  refine mv_iload_n d_TrustDesk_fund_0 rfl rfl ?_
  have := mz_hi x1
  refine mv_if_ltZ (tgt := 33) (a := x1.toInt) d_TrustDesk_fund_1 (by decide) rfl (fun b1 => ?_) (fun b1 => ?_)
  · refine mv_iconst (v := (-1)) d_TrustDesk_fund_33 (by decide) ?_
    exact mv_iret d_TrustDesk_fund_34 rfl (by first | rfl | decide) ⟨_, I0, _, rfl⟩
  · refine mv_iload_n d_TrustDesk_fund_4 rfl rfl ?_
    refine mv_sipush (v := 999) d_TrustDesk_fund_5 (by decide) ?_
    have := mz_hi x1
    refine mv_icmp_gtZ (tgt := 33) (a := x1.toInt) (b := 999) d_TrustDesk_fund_8 (by decide) rfl (by decide) (fun b2 => ?_) (fun b2 => ?_)
    · refine mv_iconst (v := (-1)) d_TrustDesk_fund_33 (by decide) ?_
      exact mv_iret d_TrustDesk_fund_34 rfl (by first | rfl | decide) ⟨_, I0, _, rfl⟩
    · refine mv_iload_n d_TrustDesk_fund_11 rfl rfl ?_
      have := mz_hi x2
      refine mv_if_ltZ (tgt := 33) (a := x2.toInt) d_TrustDesk_fund_12 (by decide) rfl (fun b3 => ?_) (fun b3 => ?_)
      · refine mv_iconst (v := (-1)) d_TrustDesk_fund_33 (by decide) ?_
        exact mv_iret d_TrustDesk_fund_34 rfl (by first | rfl | decide) ⟨_, I0, _, rfl⟩
      · refine mv_iload_n d_TrustDesk_fund_15 rfl rfl ?_
        refine mv_ldc d_TrustDesk_fund_16 k_TrustDesk_122 ?_
        have := mz_hi x2
        refine mv_icmp_gtZ (tgt := 33) (a := x2.toInt) (b := 99999) d_TrustDesk_fund_18 (by decide) rfl (by decide) (fun b4 => ?_) (fun b4 => ?_)
        · refine mv_iconst (v := (-1)) d_TrustDesk_fund_33 (by decide) ?_
          exact mv_iret d_TrustDesk_fund_34 rfl (by first | rfl | decide) ⟨_, I0, _, rfl⟩
        · refine mv_aload_n d_TrustDesk_fund_21 rfl rfl ?_
          obtain ⟨a6, q5, t_a6⟩ := tm_atO I0 h_o0 (k := 6) rfl
          refine tr_getK q5 d_TrustDesk_fund_22 f_TrustDesk_53_12 ?_
          obtain ⟨m8, n12, e9, N10, f11, h7⟩ := I0.1 _ _ t_a6
          have := h7.2.1
          have : n12.toInt ≤ 12 := h7.2.2.1
          have q13 : tm_at M0 a6 0 2 (.int n12) := ⟨_, h7.1, rfl⟩
          refine mv_callV_s (kc' := 104) (ks' := 13845) [] [.ref a6] d_TrustDesk_fund_25 lV_TrustDesk_97 h7.1 rfl (tc_L_size (d := (d + 22)) h7.1) rfl (Nat.le_of_ble_eq_true rfl) (Nat.le_of_ble_eq_true rfl) (Nat.le_of_ble_eq_true rfl) rfl ?_
          refine mv_bipush (v := 12) d_TrustDesk_fund_28 (by decide) ?_
          have := mz_hi n12
          refine mv_icmp_ltZ (tgt := 35) (a := n12.toInt) (b := 12) d_TrustDesk_fund_30 (by decide) rfl (by decide) (fun b14 => ?_) (fun b14 => ?_)
          · refine tr_new (kc' := 103) (ks' := 13830) tm_okF I0 d_TrustDesk_fund_35 n_TrustDesk_123 (Nat.le_of_ble_eq_true rfl) (Nat.le_of_ble_eq_true rfl) (fun T15 M16 I17 t_x18 m19 h20 u21 K22 => ?_)
            have q23 := tm_at.eq (K22 _ _ h_o0) q5
            have t24 := u21 _ _ t_a6
            have t25 := u21 _ _ h_o0
            have q26 := tm_at.eq (K22 _ _ t_a6) q13
            refine mv_dup d_TrustDesk_fund_38 rfl ?_
            refine mv_aload_n d_TrustDesk_fund_39 rfl rfl ?_
            refine tr_getK (k := 6) q23 d_TrustDesk_fund_40 f_TrustDesk_53_12 ?_
            obtain ⟨m28, e29, N30, f31, h27⟩ := tm_lsn I17 t24 q26
            refine mv_callV_s (kc' := 103) (ks' := 13830) [] [.ref a6, .ref n0, .ref n0] d_TrustDesk_fund_43 lV_TrustDesk_97 h27.1 rfl (tc_L_size (d := (d + 22)) h27.1) rfl (Nat.le_of_ble_eq_true rfl) (Nat.le_of_ble_eq_true rfl) (Nat.le_of_ble_eq_true rfl) rfl ?_
            refine mv_iload_n d_TrustDesk_fund_46 rfl rfl ?_
            refine mv_iload_n d_TrustDesk_fund_47 rfl rfl ?_
            refine mv_callI (kc' := 99) (ks' := 13614) (As := [.int n12, .int x1, .int x2]) (st9 := [.int x2, .int x1, .int n12, .ref n0, .ref n0]) d_TrustDesk_fund_48 lI_TrustDesk_125 (tc_Fund_init (d := (d + 18)) (o0 := n0) (x1 := n12) (x2 := x1) (x3 := x2) t_x18 m19 I17.start) rfl (Nat.le_of_ble_eq_true rfl) (Nat.le_of_ble_eq_true rfl) (Nat.le_of_ble_eq_true rfl) (hst := rfl) (fun b32r M33 n34 b32 => ?_)
            obtain ⟨T35, J36, rfl, a38, a39, a40, a41, m42, t_a38, t_a39, t_a40, t_a41⟩ := b32
            have I37 := I17.call J36 (tm_sub (by decide)) (Or.inr h20)
            have t43 := J36.up t_x18
            have t44 := J36.up t25
            have q45 := J36.keep t25 (by decide) q23
            have t46 := J36.up t24
            have q47 := J36.keepL t24 (by decide) q26
            obtain ⟨T48, I49, t_x50, u51⟩ := I37.sealO tm_okF t43 h20 m42 (fun _ z9 => (tm_fs_cons ⟨_, rfl⟩ (tm_fs_cons ⟨_, rfl⟩ (tm_fs_cons ⟨_, rfl⟩ (tm_fs_cons ⟨_, rfl⟩ (tm_fs_cons ⟨_, rfl⟩ (tm_fs_cons ⟨_, rfl⟩ (tm_fs_cons ⟨_, rfl⟩ (tm_fs_cons ⟨_, rfl⟩ (tm_fs_cons ⟨_, rfl⟩ (tm_fs_cons ⟨_, rfl⟩ (tm_fs_cons ⟨_, rfl⟩ (tm_fs_cons ⟨_, rfl, z9 _ _ t_a38 (Nat.le_of_ble_eq_true rfl)⟩ (tm_fs_cons ⟨_, rfl, z9 _ _ t_a39 (Nat.le_of_ble_eq_true rfl)⟩ (tm_fs_cons ⟨_, rfl, z9 _ _ t_a40 (Nat.le_of_ble_eq_true rfl)⟩ (tm_fs_cons ⟨_, rfl, z9 _ _ t_a41 (Nat.le_of_ble_eq_true rfl)⟩ tm_fs_nil))))))))))))))))
            have t52 := u51 _ _ t46 (tm_dif t46 t43 rfl)
            have t53 := u51 _ _ t44 (tm_dif t44 t43 rfl)
            refine mv_astore_n (lv' := [(3, .ref n0), (0, .ref o0), (1, .int x1), (2, .int x2)]) d_TrustDesk_fund_51 rfl (by decide) rfl ?_
            refine mv_aload_n d_TrustDesk_fund_52 rfl rfl ?_
            obtain ⟨a55, q54, t_a55⟩ := tm_atR I49 t53 (k := 1) rfl
            refine tr_getK q54 d_TrustDesk_fund_53 f_TrustDesk_19_12 ?_
            refine mv_aload_n d_TrustDesk_fund_56 rfl rfl ?_
            obtain ⟨_, b62, -⟩ := I49.1 _ _ t_a55
            refine mv_callV (kc' := 1) (ks' := 34) (As := [.ref n0]) (st9 := [.ref n0, .ref a55]) d_TrustDesk_fund_57 lV_TrustDesk_128 b62 rfl (tc_Reader_readDeed (d := d) (x9 := x9) (o0 := a55) (o1 := n0) t_a55 t_x50 I49.start) rfl (Nat.le_of_ble_eq_true rfl) (Nat.le_of_ble_eq_true rfl) (Nat.le_of_ble_eq_true rfl) (hst := rfl) (fun b56r M57 n58 b56 => ?_)
            obtain ⟨T59, J60, v63, rfl, b64, b65⟩ := b56
            have I61 := I49.call J60 (tm_sub (by decide)) (Or.inl rfl)
            have t66 := J60.up t_x50
            have t67 := J60.up t53
            have q68 := J60.keep t53 (by decide) q45
            have t69 := J60.up t52
            have q70 := J60.keepL t52 (by decide) q47
            have q71 := J60.keep t53 (by decide) q54
            have t72 := J60.up t_a55
            refine mv_istore (lv' := [(4, .int v63), (3, .ref n0), (0, .ref o0), (1, .int x1), (2, .int x2)]) d_TrustDesk_fund_60 (by decide) rfl ?_
            refine mv_aload_n d_TrustDesk_fund_62 rfl rfl ?_
            refine tr_getK (k := 1) q71 d_TrustDesk_fund_63 f_TrustDesk_19_12 ?_
            refine mv_iconst (v := 0) d_TrustDesk_fund_66 (by decide) ?_
            refine tr_putK tm_okF I61 t72 (k := 0) rfl ⟨_, rfl⟩ (Or.inl (by decide)) d_TrustDesk_fund_67 p_TrustDesk_88_9 rfl rfl (fun M73 I74 q75 K76 => ?_)
            refine mv_iload d_TrustDesk_fund_70 rfl ?_
            have := mz_hi v63
            refine mv_if_neZ (tgt := 85) (a := v63.toInt) d_TrustDesk_fund_72 (by decide) rfl (fun b77 => ?_) (fun b77 => ?_)
            · refine mv_aload_n d_TrustDesk_fund_85 rfl rfl ?_
              refine tr_getK (k := 6) (K76 _ 12 6 _ rfl q68) d_TrustDesk_fund_86 f_TrustDesk_53_12 ?_
              refine mv_aload_n d_TrustDesk_fund_89 rfl rfl ?_
              obtain ⟨m79, e80, N81, f82, h78⟩ := tm_lsn I74 t69 (K76 _ 0 2 _ rfl q70)
              refine mv_callV (kc' := 0) (ks' := 0) (As := [.ref n0]) (st9 := [.ref n0, .ref a6]) d_TrustDesk_fund_90 lV_TrustDesk_107 h78.1 rfl (tc_AL_addT (FT := tm_FT) (W := tm_in [5006]) (x := x9) (d := (d + 16)) tm_okF t69 t66 (K76 _ 0 2 _ rfl q70) (show _ < (12 : Int) by omega) rfl (C := "TrustDesk$Fund") (T9 := kF_Fund) (N9 := 15) rfl (mj_in1 (List.mem_of_getElem? (i := 2104) (by decide +kernel)) rfl) (by decide) (by decide) I74.start) rfl (Nat.le_of_ble_eq_true rfl) (Nat.le_of_ble_eq_true rfl) (Nat.le_of_ble_eq_true rfl) (hst := rfl) (fun b83r M84 n85 b83 => ?_)
              obtain ⟨T86, J87, rfl, q89⟩ := b83
              have I88 := I74.call J87 (tm_sub (by decide)) (Or.inl rfl)
              have t90 := J87.up t69
              have t91 := J87.up t66
              have t92 := J87.up t67
              have q93 := J87.keep t67 (by decide) (K76 _ 12 6 _ rfl q68)
              have q94 := J87.keep t67 (by decide) (K76 _ 12 1 _ rfl q71)
              have t95 := J87.up t72
              have q96 := J87.keep t72 (by decide) q75
              have b97 : (n12 + 1).toInt = n12.toInt + 1 := mz_addn 1 1 (by decide) (by have := mz_lo n12; omega) (by omega)
              refine mv_pop d_TrustDesk_fund_93 rfl ?_
              refine mv_aload_n d_TrustDesk_fund_94 rfl rfl ?_
              obtain ⟨v99, q98⟩ := tm_atI I88 t91 (k := 0) rfl
              refine tr_getK q98 d_TrustDesk_fund_95 f_TrustDesk_132_6 ?_
              exact mv_iret d_TrustDesk_fund_98 rfl (by first | rfl | decide) ⟨_, I88, _, rfl⟩
            · refine mv_iconst (v := (-1)) d_TrustDesk_fund_75 (by decide) ?_
              refine mv_aload_n d_TrustDesk_fund_76 rfl rfl ?_
              refine tr_getK (k := 1) (K76 _ 12 1 _ rfl q71) d_TrustDesk_fund_77 f_TrustDesk_19_12 ?_
              obtain ⟨v101, q100⟩ := tm_atI I74 t72 (k := 1) rfl
              refine tr_getK q100 d_TrustDesk_fund_80 f_TrustDesk_104_9 ?_
              refine mv_isub d_TrustDesk_fund_83 ?_
              exact mv_iret d_TrustDesk_fund_84 rfl (by first | rfl | decide) ⟨_, I74, _, rfl⟩
          · refine mv_iconst (v := (-1)) d_TrustDesk_fund_33 (by decide) ?_
            exact mv_iret d_TrustDesk_fund_34 rfl (by first | rfl | decide) ⟨_, I0, _, rfl⟩
abbrev kY_TrustDesk_gather : mj_Y := (⟨"TrustDesk", "gather", "(I)Z"⟩, prog_1_method_53_code, 4, (Option.some Jvm.ClassFile.FieldType.boolean))
theorem d_TrustDesk_gather_0 : decode kY_TrustDesk_gather.2.1 0 = .ok (.aload_n 0, 1) := by decide +kernel
theorem d_TrustDesk_gather_1 : decode kY_TrustDesk_gather.2.1 1 = .ok (.iload_n 1, 1) := by decide +kernel
theorem d_TrustDesk_gather_2 : decode kY_TrustDesk_gather.2.1 2 = .ok (.invokevirtual 496, 3) := by decide +kernel
theorem lV_TrustDesk_496 : mj_lV "TrustDesk" 496 kY_TrustDesk_canGather 1 := ⟨⟨(mj_in1 (List.mem_of_getElem? (i := 1223) (by decide +kernel)) rfl), (mj_in1 (List.mem_of_getElem? (i := 1) (by decide +kernel)) rfl), (mj_in1 (List.mem_of_getElem? (i := 1226) (by decide +kernel)) rfl), by decide, rfl, by decide⟩, (mj_in1 (List.mem_of_getElem? (i := 1225) (by decide +kernel)) rfl), (mj_in (List.mem_append_left _ (List.mem_of_getElem? (i := 68) (by decide +kernel))) rfl)⟩
theorem d_TrustDesk_gather_5 : decode kY_TrustDesk_gather.2.1 5 = .ok (.ifCond .ne 5, 3) := by decide +kernel
theorem d_TrustDesk_gather_10 : decode kY_TrustDesk_gather.2.1 10 = .ok (.aload_n 0, 1) := by decide +kernel
theorem d_TrustDesk_gather_11 : decode kY_TrustDesk_gather.2.1 11 = .ok (.getfield 33, 3) := by decide +kernel
theorem f_TrustDesk_33_12 : mj_fl "TrustDesk" 33 12 3 := ⟨kR_TrustDesk, kF_TrustDesk, 13, "TrustDesk", rfl, kg_12, by decide, (mj_in1 (List.mem_of_getElem? (i := 270) (by decide +kernel)) rfl), Or.inl rfl⟩
theorem d_TrustDesk_gather_14 : decode kY_TrustDesk_gather.2.1 14 = .ok (.aload_n 0, 1) := by decide +kernel
theorem d_TrustDesk_gather_15 : decode kY_TrustDesk_gather.2.1 15 = .ok (.aload_n 0, 1) := by decide +kernel
theorem d_TrustDesk_gather_16 : decode kY_TrustDesk_gather.2.1 16 = .ok (.getfield 73, 3) := by decide +kernel
theorem d_TrustDesk_gather_19 : decode kY_TrustDesk_gather.2.1 19 = .ok (.invokevirtual 114, 3) := by decide +kernel
theorem d_TrustDesk_gather_22 : decode kY_TrustDesk_gather.2.1 22 = .ok (.iconst 1, 1) := by decide +kernel
theorem d_TrustDesk_gather_23 : decode kY_TrustDesk_gather.2.1 23 = .ok (.invokevirtual 118, 3) := by decide +kernel
theorem d_TrustDesk_gather_26 : decode kY_TrustDesk_gather.2.1 26 = .ok (.invokevirtual 499, 3) := by decide +kernel
abbrev kY_Grouping_clear : mj_Y := (⟨"TrustDesk$Grouping", "clear", "(I)V"⟩, prog_8_method_2_code, 3, (Option.none : Option Jvm.ClassFile.FieldType))
theorem d_Grouping_clear_0 : decode kY_Grouping_clear.2.1 0 = .ok (.aload_n 0, 1) := by decide +kernel
theorem d_Grouping_clear_1 : decode kY_Grouping_clear.2.1 1 = .ok (.iload_n 1, 1) := by decide +kernel
theorem d_Grouping_clear_2 : decode kY_Grouping_clear.2.1 2 = .ok (.putfield 40, 3) := by decide +kernel
theorem p_Grouping_40_7 : mj_fp "TrustDesk$Grouping" 40 7 1 (kt_Grouping 1) false := ⟨kR_Grouping, kF_Grouping, 14, "TrustDesk$Grouping", kt_Grouping, rfl, kg_7, by decide, (mj_in1 (List.mem_of_getElem? (i := 163) (by decide +kernel)) rfl), Or.inl rfl, kto_Grouping, kn_Grouping, rfl, rfl, fun h => by cases h⟩
theorem d_Grouping_clear_5 : decode kY_Grouping_clear.2.1 5 = .ok (.aload_n 0, 1) := by decide +kernel
theorem d_Grouping_clear_6 : decode kY_Grouping_clear.2.1 6 = .ok (.iconst 0, 1) := by decide +kernel
theorem d_Grouping_clear_7 : decode kY_Grouping_clear.2.1 7 = .ok (.putfield 44, 3) := by decide +kernel
theorem p_Grouping_44_7 : mj_fp "TrustDesk$Grouping" 44 7 2 (kt_Grouping 2) false := ⟨kR_Grouping, kF_Grouping, 14, "TrustDesk$Grouping", kt_Grouping, rfl, kg_7, by decide, (mj_in1 (List.mem_of_getElem? (i := 164) (by decide +kernel)) rfl), Or.inl rfl, kto_Grouping, kn_Grouping, rfl, rfl, fun h => by cases h⟩
theorem d_Grouping_clear_10 : decode kY_Grouping_clear.2.1 10 = .ok (.aload_n 0, 1) := by decide +kernel
theorem d_Grouping_clear_11 : decode kY_Grouping_clear.2.1 11 = .ok (.iconst 0, 1) := by decide +kernel
theorem d_Grouping_clear_12 : decode kY_Grouping_clear.2.1 12 = .ok (.putfield 47, 3) := by decide +kernel
theorem p_Grouping_47_7 : mj_fp "TrustDesk$Grouping" 47 7 3 (kt_Grouping 3) false := ⟨kR_Grouping, kF_Grouping, 14, "TrustDesk$Grouping", kt_Grouping, rfl, kg_7, by decide, (mj_in1 (List.mem_of_getElem? (i := 165) (by decide +kernel)) rfl), Or.inl rfl, kto_Grouping, kn_Grouping, rfl, rfl, fun h => by cases h⟩
theorem d_Grouping_clear_15 : decode kY_Grouping_clear.2.1 15 = .ok (.aload_n 0, 1) := by decide +kernel
theorem d_Grouping_clear_16 : decode kY_Grouping_clear.2.1 16 = .ok (.lconst 0, 1) := by decide +kernel
theorem d_Grouping_clear_17 : decode kY_Grouping_clear.2.1 17 = .ok (.putfield 50, 3) := by decide +kernel
theorem p_Grouping_50_7 : mj_fp "TrustDesk$Grouping" 50 7 0 (kt_Grouping 0) false := ⟨kR_Grouping, kF_Grouping, 14, "TrustDesk$Grouping", kt_Grouping, rfl, kg_7, by decide, (mj_in1 (List.mem_of_getElem? (i := 161) (by decide +kernel)) rfl), Or.inl rfl, kto_Grouping, kn_Grouping, rfl, rfl, fun h => by cases h⟩
theorem d_Grouping_clear_20 : decode kY_Grouping_clear.2.1 20 = .ok (.iconst 0, 1) := by decide +kernel
theorem d_Grouping_clear_21 : decode kY_Grouping_clear.2.1 21 = .ok (.istore_n 2, 1) := by decide +kernel
theorem d_Grouping_clear_22 : decode kY_Grouping_clear.2.1 22 = .ok (.iload_n 2, 1) := by decide +kernel
theorem d_Grouping_clear_23 : decode kY_Grouping_clear.2.1 23 = .ok (.bipush 8, 2) := by decide +kernel
theorem d_Grouping_clear_25 : decode kY_Grouping_clear.2.1 25 = .ok (.if_icmp .ge 32, 3) := by decide +kernel
theorem d_Grouping_clear_57 : decode kY_Grouping_clear.2.1 57 = .ok (.return_, 1) := by decide +kernel
theorem d_Grouping_clear_28 : decode kY_Grouping_clear.2.1 28 = .ok (.aload_n 0, 1) := by decide +kernel
theorem d_Grouping_clear_29 : decode kY_Grouping_clear.2.1 29 = .ok (.getfield 28, 3) := by decide +kernel
theorem f_Grouping_28_7 : mj_fl "TrustDesk$Grouping" 28 7 9 := ⟨kR_Grouping, kF_Grouping, 14, "TrustDesk$Grouping", rfl, kg_7, by decide, (mj_in1 (List.mem_of_getElem? (i := 171) (by decide +kernel)) rfl), Or.inl rfl⟩
theorem d_Grouping_clear_32 : decode kY_Grouping_clear.2.1 32 = .ok (.iload_n 2, 1) := by decide +kernel
theorem d_Grouping_clear_33 : decode kY_Grouping_clear.2.1 33 = .ok (.iconst 0, 1) := by decide +kernel
theorem d_Grouping_clear_34 : decode kY_Grouping_clear.2.1 34 = .ok (.iastore, 1) := by decide +kernel
theorem d_Grouping_clear_35 : decode kY_Grouping_clear.2.1 35 = .ok (.aload_n 0, 1) := by decide +kernel
theorem d_Grouping_clear_36 : decode kY_Grouping_clear.2.1 36 = .ok (.getfield 31, 3) := by decide +kernel
theorem f_Grouping_31_7 : mj_fl "TrustDesk$Grouping" 31 7 10 := ⟨kR_Grouping, kF_Grouping, 14, "TrustDesk$Grouping", rfl, kg_7, by decide, (mj_in1 (List.mem_of_getElem? (i := 172) (by decide +kernel)) rfl), Or.inl rfl⟩
theorem d_Grouping_clear_39 : decode kY_Grouping_clear.2.1 39 = .ok (.iload_n 2, 1) := by decide +kernel
theorem d_Grouping_clear_40 : decode kY_Grouping_clear.2.1 40 = .ok (.sipush 255, 3) := by decide +kernel
theorem d_Grouping_clear_43 : decode kY_Grouping_clear.2.1 43 = .ok (.iastore, 1) := by decide +kernel
theorem d_Grouping_clear_44 : decode kY_Grouping_clear.2.1 44 = .ok (.aload_n 0, 1) := by decide +kernel
theorem d_Grouping_clear_45 : decode kY_Grouping_clear.2.1 45 = .ok (.getfield 34, 3) := by decide +kernel
theorem f_Grouping_34_7 : mj_fl "TrustDesk$Grouping" 34 7 11 := ⟨kR_Grouping, kF_Grouping, 14, "TrustDesk$Grouping", rfl, kg_7, by decide, (mj_in1 (List.mem_of_getElem? (i := 173) (by decide +kernel)) rfl), Or.inl rfl⟩
theorem d_Grouping_clear_48 : decode kY_Grouping_clear.2.1 48 = .ok (.iload_n 2, 1) := by decide +kernel
theorem d_Grouping_clear_49 : decode kY_Grouping_clear.2.1 49 = .ok (.lconst 0, 1) := by decide +kernel
theorem d_Grouping_clear_50 : decode kY_Grouping_clear.2.1 50 = .ok (.lastore, 1) := by decide +kernel
theorem d_Grouping_clear_51 : decode kY_Grouping_clear.2.1 51 = .ok (.iinc 2 1, 3) := by decide +kernel
theorem d_Grouping_clear_54 : decode kY_Grouping_clear.2.1 54 = .ok (.goto (-32), 3) := by decide +kernel
def w_Grouping_clear : List Nat := [700, 701, 702, 703, 759, 760, 761]
theorem tc_Grouping_clear {g : mj_G} {l : Launch} {d : Nat} {T0 : tm_H} {M0 : mj_M} {n0 x9 : Nat} {o0 : Nat} {x1 : Int32} (h_o0 : T0 o0 = some (0, 7, 0)) (I0 : tm_I tm_FT (tm_in w_Grouping_clear) x9 T0 M0 n0 T0 M0 n0) : mj_Met g l kY_Grouping_clear d [.ref o0, .int x1] M0 n0 0 0 (tm_Q tm_FT (tm_in w_Grouping_clear) x9 T0 M0 n0 (fun r _ _ => r = none)) := by
  refine mj_enter (by decide) (Nat.le_of_ble_eq_true rfl) ?_
  refine mv_aload_n d_Grouping_clear_0 rfl rfl ?_
  refine mv_iload_n d_Grouping_clear_1 rfl rfl ?_
  refine tr_putK tm_okF I0 h_o0 (k := 1) rfl ⟨_, rfl⟩ (Or.inl (by decide)) d_Grouping_clear_2 p_Grouping_40_7 rfl rfl (fun M1 I2 q3 K4 => ?_)
  refine mv_aload_n d_Grouping_clear_5 rfl rfl ?_
  refine mv_iconst (v := 0) d_Grouping_clear_6 (by decide) ?_
  refine tr_putK tm_okF I2 h_o0 (k := 2) rfl ⟨_, rfl⟩ (Or.inl (by decide)) d_Grouping_clear_7 p_Grouping_44_7 rfl rfl (fun M5 I6 q7 K8 => ?_)
  refine mv_aload_n d_Grouping_clear_10 rfl rfl ?_
  refine mv_iconst (v := 0) d_Grouping_clear_11 (by decide) ?_
  refine tr_putK tm_okF I6 h_o0 (k := 3) rfl ⟨_, rfl⟩ (Or.inl (by decide)) d_Grouping_clear_12 p_Grouping_47_7 rfl rfl (fun M9 I10 q11 K12 => ?_)
  refine mv_aload_n d_Grouping_clear_15 rfl rfl ?_
  refine mv_lconst (v := 0) d_Grouping_clear_16 (by decide) ?_
  refine tr_putK tm_okF I10 h_o0 (k := 0) rfl ⟨_, rfl⟩ (Or.inl (by decide)) d_Grouping_clear_17 p_Grouping_50_7 rfl rfl (fun M13 I14 q15 K16 => ?_)
  refine mv_iconst (v := 0) d_Grouping_clear_20 (by decide) ?_
  refine mv_istore_n (lv' := [(2, .int 0), (0, .ref o0), (1, .int x1)]) d_Grouping_clear_21 rfl (by decide) rfl ?_
  have L22_17 : ∀ (k : Nat) (i2_17 : Int32) (T_17 : tm_H) (M_17 : mj_M) (n_17 : Nat), tm_I tm_FT (tm_in w_Grouping_clear) x9 T0 M0 n0 T_17 M_17 n_17 → T_17 o0 = some (0, 7, 0) → 0 ≤ i2_17.toInt → 2147483647 - i2_17.toInt < (k : Int) → mj_V g l kY_Grouping_clear d 22 [(2, .int i2_17), (0, .ref o0), (1, .int x1)] [] M_17 n_17 0 0 (tm_Q tm_FT (tm_in w_Grouping_clear) x9 T0 M0 n0 (fun r _ _ => r = none)) := by
    intro k17
    induction k17 with
    | zero =>
      intro i2_17 T_17 M_17 n_17 I_17 h_q0_17 iv0_17 hk17
      have := mz_hi i2_17
      omega
    | succ k17 ih17 =>
      intro i2_17 T_17 M_17 n_17 I_17 h_q0_17 iv0_17 hk17
      refine mv_iload_n d_Grouping_clear_22 rfl rfl ?_
      refine mv_bipush (v := 8) d_Grouping_clear_23 (by decide) ?_
      have := mz_hi i2_17
      refine mv_icmp_geZ (tgt := 57) (a := i2_17.toInt) (b := 8) d_Grouping_clear_25 (by decide) rfl (by decide) (fun b18 => ?_) (fun b18 => ?_)
      · exact mv_vret d_Grouping_clear_57 rfl ⟨_, I_17, rfl⟩
      · refine mv_aload_n d_Grouping_clear_28 rfl rfl ?_
        obtain ⟨a20, q19, t_a20⟩ := tm_atR I_17 h_q0_17 (k := 9) rfl
        refine tr_getK q19 d_Grouping_clear_29 f_Grouping_28_7 ?_
        refine mv_iload_n d_Grouping_clear_32 rfl rfl ?_
        refine mv_iconst (v := 0) d_Grouping_clear_33 (by decide) ?_
        refine tr_iastK tm_okF I_17 t_a20 (by decide) (Or.inl (by decide)) d_Grouping_clear_34 (vp_in_iff.mpr (by omega)) (fun M21 I22 K23 => ?_)
        refine mv_aload_n d_Grouping_clear_35 rfl rfl ?_
        obtain ⟨a25, q24, t_a25⟩ := tm_atR I22 h_q0_17 (k := 10) rfl
        refine tr_getK q24 d_Grouping_clear_36 f_Grouping_31_7 ?_
        refine mv_iload_n d_Grouping_clear_39 rfl rfl ?_
        refine mv_sipush (v := 255) d_Grouping_clear_40 (by decide) ?_
        refine tr_iastK tm_okF I22 t_a25 (by decide) (Or.inl (by decide)) d_Grouping_clear_43 (vp_in_iff.mpr (by omega)) (fun M26 I27 K28 => ?_)
        refine mv_aload_n d_Grouping_clear_44 rfl rfl ?_
        obtain ⟨a30, q29, t_a30⟩ := tm_atR I27 h_q0_17 (k := 11) rfl
        refine tr_getK q29 d_Grouping_clear_45 f_Grouping_34_7 ?_
        refine mv_iload_n d_Grouping_clear_48 rfl rfl ?_
        refine mv_lconst (v := 0) d_Grouping_clear_49 (by decide) ?_
        refine tr_lastK tm_okF I27 t_a30 (by decide) (Or.inl (by decide)) d_Grouping_clear_50 (vp_in_iff.mpr (by omega)) (fun M31 I32 K33 => ?_)
        refine mv_iinc (v := (i2_17 + 1)) (lv' := [(2, .int (i2_17 + 1)), (0, .ref o0), (1, .int x1)]) d_Grouping_clear_51 rfl rfl (by decide) rfl ?_
        refine mv_goto (tgt := 22) d_Grouping_clear_54 (by decide) ?_
        have b34 : (i2_17 + 1).toInt = i2_17.toInt + 1 := mz_addn 1 1 (by decide) (by have := mz_lo i2_17; omega) (by have := mz_hi i2_17; omega)
        exact (ih17 (i2_17 + 1) T_17 M31 n_17 I32 h_q0_17 (by first | omega | decide) (by omega))
  exact mv_less (Nat.zero_le _) (Nat.zero_le _) (L22_17 4294967296 0 T0 M13 n0 I14 h_o0 (by first | omega | decide) (by show (2147483647 - (0 : Int) : Int) < _; decide))
theorem lV_TrustDesk_499 : mj_lV "TrustDesk" 499 kY_Grouping_clear 1 := ⟨⟨(mj_in1 (List.mem_of_getElem? (i := 1227) (by decide +kernel)) rfl), (mj_in1 (List.mem_of_getElem? (i := 5) (by decide +kernel)) rfl), (mj_in1 (List.mem_of_getElem? (i := 1230) (by decide +kernel)) rfl), by decide, rfl, by decide⟩, (mj_in1 (List.mem_of_getElem? (i := 1228) (by decide +kernel)) rfl), (mj_in1 (List.mem_of_getElem? (i := 1229) (by decide +kernel)) rfl)⟩
theorem d_TrustDesk_gather_29 : decode kY_TrustDesk_gather.2.1 29 = .ok (.aload_n 0, 1) := by decide +kernel
theorem d_TrustDesk_gather_30 : decode kY_TrustDesk_gather.2.1 30 = .ok (.getfield 26, 3) := by decide +kernel
theorem d_TrustDesk_gather_33 : decode kY_TrustDesk_gather.2.1 33 = .ok (.aload_n 0, 1) := by decide +kernel
theorem d_TrustDesk_gather_34 : decode kY_TrustDesk_gather.2.1 34 = .ok (.getfield 10, 3) := by decide +kernel
theorem d_TrustDesk_gather_37 : decode kY_TrustDesk_gather.2.1 37 = .ok (.aload_n 0, 1) := by decide +kernel
theorem d_TrustDesk_gather_38 : decode kY_TrustDesk_gather.2.1 38 = .ok (.getfield 73, 3) := by decide +kernel
theorem d_TrustDesk_gather_41 : decode kY_TrustDesk_gather.2.1 41 = .ok (.invokestatic 366, 3) := by decide +kernel
theorem d_TrustDesk_gather_44 : decode kY_TrustDesk_gather.2.1 44 = .ok (.aload_n 0, 1) := by decide +kernel
theorem d_TrustDesk_gather_45 : decode kY_TrustDesk_gather.2.1 45 = .ok (.getfield 73, 3) := by decide +kernel
theorem d_TrustDesk_gather_48 : decode kY_TrustDesk_gather.2.1 48 = .ok (.invokevirtual 154, 3) := by decide +kernel
theorem d_TrustDesk_gather_51 : decode kY_TrustDesk_gather.2.1 51 = .ok (.iconst 0, 1) := by decide +kernel
theorem d_TrustDesk_gather_52 : decode kY_TrustDesk_gather.2.1 52 = .ok (.istore_n 2, 1) := by decide +kernel
theorem d_TrustDesk_gather_53 : decode kY_TrustDesk_gather.2.1 53 = .ok (.iload_n 2, 1) := by decide +kernel
theorem d_TrustDesk_gather_54 : decode kY_TrustDesk_gather.2.1 54 = .ok (.aload_n 0, 1) := by decide +kernel
theorem d_TrustDesk_gather_55 : decode kY_TrustDesk_gather.2.1 55 = .ok (.getfield 53, 3) := by decide +kernel
theorem d_TrustDesk_gather_58 : decode kY_TrustDesk_gather.2.1 58 = .ok (.invokevirtual 97, 3) := by decide +kernel
theorem d_TrustDesk_gather_61 : decode kY_TrustDesk_gather.2.1 61 = .ok (.if_icmp .ge 49, 3) := by decide +kernel
theorem d_TrustDesk_gather_110 : decode kY_TrustDesk_gather.2.1 110 = .ok (.iconst 1, 1) := by decide +kernel
theorem d_TrustDesk_gather_111 : decode kY_TrustDesk_gather.2.1 111 = .ok (.ireturn, 1) := by decide +kernel
theorem d_TrustDesk_gather_64 : decode kY_TrustDesk_gather.2.1 64 = .ok (.iload_n 1, 1) := by decide +kernel
theorem d_TrustDesk_gather_65 : decode kY_TrustDesk_gather.2.1 65 = .ok (.iload_n 2, 1) := by decide +kernel
theorem d_TrustDesk_gather_66 : decode kY_TrustDesk_gather.2.1 66 = .ok (.ishr, 1) := by decide +kernel
theorem d_TrustDesk_gather_67 : decode kY_TrustDesk_gather.2.1 67 = .ok (.iconst 1, 1) := by decide +kernel
theorem d_TrustDesk_gather_68 : decode kY_TrustDesk_gather.2.1 68 = .ok (.iand, 1) := by decide +kernel
theorem d_TrustDesk_gather_69 : decode kY_TrustDesk_gather.2.1 69 = .ok (.ifCond .eq 35, 3) := by decide +kernel
theorem d_TrustDesk_gather_104 : decode kY_TrustDesk_gather.2.1 104 = .ok (.iinc 2 1, 3) := by decide +kernel
theorem d_TrustDesk_gather_107 : decode kY_TrustDesk_gather.2.1 107 = .ok (.goto (-54), 3) := by decide +kernel
theorem d_TrustDesk_gather_72 : decode kY_TrustDesk_gather.2.1 72 = .ok (.aload_n 0, 1) := by decide +kernel
theorem d_TrustDesk_gather_73 : decode kY_TrustDesk_gather.2.1 73 = .ok (.getfield 53, 3) := by decide +kernel
theorem d_TrustDesk_gather_76 : decode kY_TrustDesk_gather.2.1 76 = .ok (.iload_n 2, 1) := by decide +kernel
theorem d_TrustDesk_gather_77 : decode kY_TrustDesk_gather.2.1 77 = .ok (.invokevirtual 158, 3) := by decide +kernel
theorem d_TrustDesk_gather_80 : decode kY_TrustDesk_gather.2.1 80 = .ok (.checkcast 123, 3) := by decide +kernel
theorem d_TrustDesk_gather_83 : decode kY_TrustDesk_gather.2.1 83 = .ok (.astore_n 3, 1) := by decide +kernel
theorem d_TrustDesk_gather_84 : decode kY_TrustDesk_gather.2.1 84 = .ok (.aload_n 0, 1) := by decide +kernel
theorem d_TrustDesk_gather_85 : decode kY_TrustDesk_gather.2.1 85 = .ok (.getfield 33, 3) := by decide +kernel
theorem d_TrustDesk_gather_88 : decode kY_TrustDesk_gather.2.1 88 = .ok (.aload_n 3, 1) := by decide +kernel
theorem d_TrustDesk_gather_89 : decode kY_TrustDesk_gather.2.1 89 = .ok (.getfield 372, 3) := by decide +kernel
theorem d_TrustDesk_gather_92 : decode kY_TrustDesk_gather.2.1 92 = .ok (.aload_n 0, 1) := by decide +kernel
theorem d_TrustDesk_gather_93 : decode kY_TrustDesk_gather.2.1 93 = .ok (.aload_n 3, 1) := by decide +kernel
theorem d_TrustDesk_gather_94 : decode kY_TrustDesk_gather.2.1 94 = .ok (.invokevirtual 502, 3) := by decide +kernel
abbrev kY_TrustDesk_spareOf : mj_Y := (⟨"TrustDesk", "spareOf", "(LTrustDesk$Fund;)J"⟩, prog_1_method_55_code, 6, (Option.some Jvm.ClassFile.FieldType.long))
theorem d_TrustDesk_spareOf_0 : decode kY_TrustDesk_spareOf.2.1 0 = .ok (.aload_n 0, 1) := by decide +kernel
theorem d_TrustDesk_spareOf_1 : decode kY_TrustDesk_spareOf.2.1 1 = .ok (.getfield 26, 3) := by decide +kernel
theorem d_TrustDesk_spareOf_4 : decode kY_TrustDesk_spareOf.2.1 4 = .ok (.aload_n 1, 1) := by decide +kernel
theorem d_TrustDesk_spareOf_5 : decode kY_TrustDesk_spareOf.2.1 5 = .ok (.invokevirtual 200, 3) := by decide +kernel
theorem d_TrustDesk_spareOf_8 : decode kY_TrustDesk_spareOf.2.1 8 = .ok (.aload_n 1, 1) := by decide +kernel
theorem d_TrustDesk_spareOf_9 : decode kY_TrustDesk_spareOf.2.1 9 = .ok (.aload_n 0, 1) := by decide +kernel
theorem d_TrustDesk_spareOf_10 : decode kY_TrustDesk_spareOf.2.1 10 = .ok (.getfield 26, 3) := by decide +kernel
theorem d_TrustDesk_spareOf_13 : decode kY_TrustDesk_spareOf.2.1 13 = .ok (.getfield 180, 3) := by decide +kernel
theorem d_TrustDesk_spareOf_16 : decode kY_TrustDesk_spareOf.2.1 16 = .ok (.bipush 6, 2) := by decide +kernel
theorem d_TrustDesk_spareOf_18 : decode kY_TrustDesk_spareOf.2.1 18 = .ok (.laload, 1) := by decide +kernel
theorem d_TrustDesk_spareOf_19 : decode kY_TrustDesk_spareOf.2.1 19 = .ok (.invokevirtual 184, 3) := by decide +kernel
theorem d_TrustDesk_spareOf_22 : decode kY_TrustDesk_spareOf.2.1 22 = .ok (.lstore_n 2, 1) := by decide +kernel
theorem d_TrustDesk_spareOf_23 : decode kY_TrustDesk_spareOf.2.1 23 = .ok (.iconst 0, 1) := by decide +kernel
theorem d_TrustDesk_spareOf_24 : decode kY_TrustDesk_spareOf.2.1 24 = .ok (.istore 4, 2) := by decide +kernel
theorem d_TrustDesk_spareOf_26 : decode kY_TrustDesk_spareOf.2.1 26 = .ok (.iload 4, 2) := by decide +kernel
theorem d_TrustDesk_spareOf_28 : decode kY_TrustDesk_spareOf.2.1 28 = .ok (.aload_n 1, 1) := by decide +kernel
theorem d_TrustDesk_spareOf_29 : decode kY_TrustDesk_spareOf.2.1 29 = .ok (.getfield 188, 3) := by decide +kernel
theorem d_TrustDesk_spareOf_32 : decode kY_TrustDesk_spareOf.2.1 32 = .ok (.invokevirtual 97, 3) := by decide +kernel
theorem d_TrustDesk_spareOf_35 : decode kY_TrustDesk_spareOf.2.1 35 = .ok (.if_icmp .ge 73, 3) := by decide +kernel
theorem d_TrustDesk_spareOf_108 : decode kY_TrustDesk_spareOf.2.1 108 = .ok (.lload_n 2, 1) := by decide +kernel
theorem d_TrustDesk_spareOf_109 : decode kY_TrustDesk_spareOf.2.1 109 = .ok (.lreturn, 1) := by decide +kernel
theorem d_TrustDesk_spareOf_38 : decode kY_TrustDesk_spareOf.2.1 38 = .ok (.aload_n 1, 1) := by decide +kernel
theorem d_TrustDesk_spareOf_39 : decode kY_TrustDesk_spareOf.2.1 39 = .ok (.getfield 188, 3) := by decide +kernel
theorem d_TrustDesk_spareOf_42 : decode kY_TrustDesk_spareOf.2.1 42 = .ok (.iload 4, 2) := by decide +kernel
theorem d_TrustDesk_spareOf_44 : decode kY_TrustDesk_spareOf.2.1 44 = .ok (.invokevirtual 158, 3) := by decide +kernel
theorem d_TrustDesk_spareOf_47 : decode kY_TrustDesk_spareOf.2.1 47 = .ok (.checkcast 191, 3) := by decide +kernel
theorem d_TrustDesk_spareOf_50 : decode kY_TrustDesk_spareOf.2.1 50 = .ok (.astore 5, 2) := by decide +kernel
theorem d_TrustDesk_spareOf_52 : decode kY_TrustDesk_spareOf.2.1 52 = .ok (.aload 5, 2) := by decide +kernel
theorem d_TrustDesk_spareOf_54 : decode kY_TrustDesk_spareOf.2.1 54 = .ok (.getfield 193, 3) := by decide +kernel
theorem d_TrustDesk_spareOf_57 : decode kY_TrustDesk_spareOf.2.1 57 = .ok (.ifCond .ne 45, 3) := by decide +kernel
theorem d_TrustDesk_spareOf_102 : decode kY_TrustDesk_spareOf.2.1 102 = .ok (.iinc 4 1, 3) := by decide +kernel
theorem d_TrustDesk_spareOf_105 : decode kY_TrustDesk_spareOf.2.1 105 = .ok (.goto (-79), 3) := by decide +kernel
theorem d_TrustDesk_spareOf_60 : decode kY_TrustDesk_spareOf.2.1 60 = .ok (.aload_n 0, 1) := by decide +kernel
theorem d_TrustDesk_spareOf_61 : decode kY_TrustDesk_spareOf.2.1 61 = .ok (.getfield 26, 3) := by decide +kernel
theorem d_TrustDesk_spareOf_64 : decode kY_TrustDesk_spareOf.2.1 64 = .ok (.aload 5, 2) := by decide +kernel
theorem d_TrustDesk_spareOf_66 : decode kY_TrustDesk_spareOf.2.1 66 = .ok (.getfield 204, 3) := by decide +kernel
theorem d_TrustDesk_spareOf_69 : decode kY_TrustDesk_spareOf.2.1 69 = .ok (.getfield 208, 3) := by decide +kernel
theorem d_TrustDesk_spareOf_72 : decode kY_TrustDesk_spareOf.2.1 72 = .ok (.invokevirtual 214, 3) := by decide +kernel
theorem d_TrustDesk_spareOf_75 : decode kY_TrustDesk_spareOf.2.1 75 = .ok (.lconst 0, 1) := by decide +kernel
theorem d_TrustDesk_spareOf_76 : decode kY_TrustDesk_spareOf.2.1 76 = .ok (.lcmp, 1) := by decide +kernel
theorem d_TrustDesk_spareOf_77 : decode kY_TrustDesk_spareOf.2.1 77 = .ok (.ifCond .eq 25, 3) := by decide +kernel
theorem d_TrustDesk_spareOf_80 : decode kY_TrustDesk_spareOf.2.1 80 = .ok (.lload_n 2, 1) := by decide +kernel
theorem d_TrustDesk_spareOf_81 : decode kY_TrustDesk_spareOf.2.1 81 = .ok (.lconst 0, 1) := by decide +kernel
theorem d_TrustDesk_spareOf_82 : decode kY_TrustDesk_spareOf.2.1 82 = .ok (.aload_n 0, 1) := by decide +kernel
theorem d_TrustDesk_spareOf_83 : decode kY_TrustDesk_spareOf.2.1 83 = .ok (.getfield 26, 3) := by decide +kernel
theorem d_TrustDesk_spareOf_86 : decode kY_TrustDesk_spareOf.2.1 86 = .ok (.aload 5, 2) := by decide +kernel
theorem d_TrustDesk_spareOf_88 : decode kY_TrustDesk_spareOf.2.1 88 = .ok (.getfield 204, 3) := by decide +kernel
theorem d_TrustDesk_spareOf_91 : decode kY_TrustDesk_spareOf.2.1 91 = .ok (.getfield 225, 3) := by decide +kernel
theorem d_TrustDesk_spareOf_94 : decode kY_TrustDesk_spareOf.2.1 94 = .ok (.invokevirtual 214, 3) := by decide +kernel
theorem d_TrustDesk_spareOf_97 : decode kY_TrustDesk_spareOf.2.1 97 = .ok (.invokestatic 228, 3) := by decide +kernel
theorem d_TrustDesk_spareOf_100 : decode kY_TrustDesk_spareOf.2.1 100 = .ok (.lsub, 1) := by decide +kernel
theorem d_TrustDesk_spareOf_101 : decode kY_TrustDesk_spareOf.2.1 101 = .ok (.lstore_n 2, 1) := by decide +kernel
def w_TrustDesk_spareOf : List Nat := [1001, 1003, 1004, 1050, 1052]
theorem tc_TrustDesk_spareOf {g : mj_G} {l : Launch} {d : Nat} {T0 : tm_H} {M0 : mj_M} {n0 x9 : Nat} {o0 : Nat} {o1 : Nat} (h_o0 : T0 o0 = some (0, 12, 0)) (h_o1 : T0 o1 = some (0, 6, 0)) (I0 : tm_I tm_FT (tm_in w_TrustDesk_spareOf) x9 T0 M0 n0 T0 M0 n0) : mj_Met g l kY_TrustDesk_spareOf (d + 4) [.ref o0, .ref o1] M0 n0 0 0 (tm_Q tm_FT (tm_in w_TrustDesk_spareOf) x9 T0 M0 n0 (fun r _ _ => ∃ v : Int64, r = some (.long v))) := by
  refine mj_enter (by decide) (Nat.le_of_ble_eq_true rfl) ?_
  refine mv_aload_n d_TrustDesk_spareOf_0 rfl rfl ?_
  obtain ⟨a2, q1, t_a2⟩ := tm_atR I0 h_o0 (k := 2) rfl
  refine tr_getK q1 d_TrustDesk_spareOf_1 f_TrustDesk_26_12 ?_
  refine mv_aload_n d_TrustDesk_spareOf_4 rfl rfl ?_
  obtain ⟨_, b9, -⟩ := I0.1 _ _ t_a2
  refine mv_callV (kc' := 0) (ks' := 0) (As := [.ref o1]) (st9 := [.ref o1, .ref a2]) d_TrustDesk_spareOf_5 lV_TrustDesk_200 b9 rfl (tc_Reckoner_knowFund (d := (d + 2)) (x9 := x9) (o0 := a2) (o1 := o1) t_a2 h_o1 I0.start) rfl (Nat.le_of_ble_eq_true rfl) (Nat.le_of_ble_eq_true rfl) (Nat.le_of_ble_eq_true rfl) (hst := rfl) (fun b3r M4 n5 b3 => ?_)
  obtain ⟨T6, J7, rfl⟩ := b3
  have I8 := I0.call J7 (tm_sub (by decide)) (Or.inl rfl)
  have t10 := J7.up h_o0
  have t11 := J7.up h_o1
  have q12 := J7.keep h_o0 (by decide) q1
  have t13 := J7.up t_a2
  refine mv_aload_n d_TrustDesk_spareOf_8 rfl rfl ?_
  refine mv_aload_n d_TrustDesk_spareOf_9 rfl rfl ?_
  refine tr_getK (k := 2) q12 d_TrustDesk_spareOf_10 f_TrustDesk_26_12 ?_
  obtain ⟨a15, q14, t_a15⟩ := tm_atR I8 t13 (k := 0) rfl
  refine tr_getK q14 d_TrustDesk_spareOf_13 f_TrustDesk_180_10 ?_
  refine mv_bipush (v := 6) d_TrustDesk_spareOf_16 (by decide) ?_
  refine tr_lald I8 t_a15 (by decide) d_TrustDesk_spareOf_18 (by unfold vp_in; decide) (fun v16 => ?_)
  obtain ⟨_, b23, -⟩ := I8.1 _ _ t11
  refine mv_callV (kc' := 0) (ks' := 0) (As := [.long v16]) (st9 := [.long v16, .ref o1]) d_TrustDesk_spareOf_19 lV_TrustDesk_184 b23 rfl (tc_Fund_incomeAt (d := (d + 3)) (x9 := x9) (o0 := o1) (x1 := v16) t11 I8.start) rfl (Nat.le_of_ble_eq_true rfl) (Nat.le_of_ble_eq_true rfl) (Nat.le_of_ble_eq_true rfl) (hst := rfl) (fun b17r M18 n19 b17 => ?_)
  obtain ⟨T20, J21, v24, rfl⟩ := b17
  have I22 := I8.call J21 (tm_sub (by decide)) (Or.inl rfl)
  have t25 := J21.up t10
  have t26 := J21.up t11
  have q27 := J21.keep t10 (by decide) q12
  have t28 := J21.up t13
  have q29 := J21.keep t13 (by decide) q14
  have t30 := J21.up t_a15
  refine mv_lstore_n (lv' := [(2, .long v24), (0, .ref o0), (1, .ref o1)]) d_TrustDesk_spareOf_22 rfl (by decide) rfl ?_
  refine mv_iconst (v := 0) d_TrustDesk_spareOf_23 (by decide) ?_
  refine mv_istore (lv' := [(4, .int 0), (2, .long v24), (0, .ref o0), (1, .ref o1)]) d_TrustDesk_spareOf_24 (by decide) rfl ?_
  have L26_31 : ∀ (k : Nat) (i4_31 : Int32) (l2_31 : Int64) (T_31 : tm_H) (M_31 : mj_M) (n_31 : Nat), tm_I tm_FT (tm_in w_TrustDesk_spareOf) x9 T0 M0 n0 T_31 M_31 n_31 → T_31 o0 = some (0, 12, 0) → T_31 o1 = some (0, 6, 0) → 0 ≤ i4_31.toInt → 2147483647 - i4_31.toInt < (k : Int) → mj_V g l kY_TrustDesk_spareOf (d + 4) 26 [(4, .int i4_31), (2, .long l2_31), (0, .ref o0), (1, .ref o1)] [] M_31 n_31 0 0 (tm_Q tm_FT (tm_in w_TrustDesk_spareOf) x9 T0 M0 n0 (fun r _ _ => ∃ v : Int64, r = some (.long v))) := by
    intro k31
    induction k31 with
    | zero =>
      intro i4_31 l2_31 T_31 M_31 n_31 I_31 h_q0_31 h_q1_31 iv0_31 hk31
      have := mz_hi i4_31
      omega
    | succ k31 ih31 =>
      intro i4_31 l2_31 T_31 M_31 n_31 I_31 h_q0_31 h_q1_31 iv0_31 hk31
      refine mv_iload d_TrustDesk_spareOf_26 rfl ?_
      refine mv_aload_n d_TrustDesk_spareOf_28 rfl rfl ?_
      obtain ⟨a33, q32, t_a33⟩ := tm_atO I_31 h_q1_31 (k := 11) rfl
      refine tr_getK q32 d_TrustDesk_spareOf_29 f_TrustDesk_188_6 ?_
      obtain ⟨m35, n39, e36, N37, f38, h34⟩ := I_31.1 _ _ t_a33
      have := h34.2.1
      have : n39.toInt ≤ 72 := h34.2.2.1
      have q40 : tm_at M_31 a33 0 2 (.int n39) := ⟨_, h34.1, rfl⟩
      refine mv_callV_s (kc' := 0) (ks' := 0) [] [.ref a33, .int i4_31] d_TrustDesk_spareOf_32 lV_TrustDesk_97 h34.1 rfl (tc_L_size (d := (d + 3)) h34.1) rfl (Nat.le_of_ble_eq_true rfl) (Nat.le_of_ble_eq_true rfl) (Nat.le_of_ble_eq_true rfl) rfl ?_
      have := mz_hi i4_31
      have := mz_hi n39
      refine mv_icmp_geZ (tgt := 108) (a := i4_31.toInt) (b := n39.toInt) d_TrustDesk_spareOf_35 (by decide) rfl rfl (fun b41 => ?_) (fun b41 => ?_)
      · refine mv_lload_n d_TrustDesk_spareOf_108 rfl rfl ?_
        exact mv_lret d_TrustDesk_spareOf_109 rfl ⟨_, I_31, _, rfl⟩
      · refine mv_aload_n d_TrustDesk_spareOf_38 rfl rfl ?_
        refine tr_getK (k := 11) q32 d_TrustDesk_spareOf_39 f_TrustDesk_188_6 ?_
        refine mv_iload d_TrustDesk_spareOf_42 rfl ?_
        obtain ⟨m43, e44, N45, f46, h42⟩ := tm_lsn I_31 t_a33 q40
        obtain ⟨u47e, u47i, a48, u47f, u47t⟩ := tm_el (i := i4_31) h42 (by omega) (by omega)
        have t_a48 : T_31 a48 = some (0, 3, 0) := u47t
        refine mv_callV_s (kc' := 0) (ks' := 0) [.int i4_31] [.int i4_31, .ref a33] d_TrustDesk_spareOf_44 lV_TrustDesk_158 h42.1 rfl (tc_L_get (d := (d + 1)) h42.1 u47e (by omega) (by omega) u47i u47f) rfl (Nat.le_of_ble_eq_true rfl) (Nat.le_of_ble_eq_true rfl) (Nat.le_of_ble_eq_true rfl) rfl ?_
        obtain ⟨_, b49, -⟩ := I_31.1 _ _ t_a48
        refine mv_castS (T9 := kF_End) (N := 4) d_TrustDesk_spareOf_47 (mj_in1 (List.mem_of_getElem? (i := 877) (by decide +kernel)) rfl) b49 rfl ?_
        refine mv_astore (lv' := [(5, .ref a48), (4, .int i4_31), (2, .long l2_31), (0, .ref o0), (1, .ref o1)]) d_TrustDesk_spareOf_50 (by decide) rfl ?_
        refine mv_aload d_TrustDesk_spareOf_52 rfl ?_
        obtain ⟨v51, q50⟩ := tm_atI I_31 t_a48 (k := 1) rfl
        refine tr_getK q50 d_TrustDesk_spareOf_54 f_TrustDesk_193_3 ?_
        have := mz_hi v51
        refine mv_if_neZ (tgt := 102) (a := v51.toInt) d_TrustDesk_spareOf_57 (by decide) rfl (fun b52 => ?_) (fun b52 => ?_)
        · refine mv_iinc (v := (i4_31 + 1)) (lv' := [(4, .int (i4_31 + 1)), (5, .ref a48), (2, .long l2_31), (0, .ref o0), (1, .ref o1)]) d_TrustDesk_spareOf_102 rfl rfl (by decide) rfl ?_
          refine mv_goto (tgt := 26) d_TrustDesk_spareOf_105 (by decide) ?_
          refine mv_locals (lv' := [(4, .int (i4_31 + 1)), (2, .long l2_31), (0, .ref o0), (1, .ref o1)]) (by intro q hq; simp only [List.mem_cons, List.not_mem_nil, or_false] at hq; rcases hq with rfl | rfl | rfl | rfl <;> rfl) ?_
          have b53 : (i4_31 + 1).toInt = i4_31.toInt + 1 := mz_addn 1 1 (by decide) (by have := mz_lo i4_31; omega) (by have := mz_hi i4_31; omega)
          exact (ih31 (i4_31 + 1) l2_31 T_31 M_31 n_31 I_31 h_q0_31 h_q1_31 (by first | omega | decide) (by omega))
        · refine mv_aload_n d_TrustDesk_spareOf_60 rfl rfl ?_
          obtain ⟨a55, q54, t_a55⟩ := tm_atR I_31 h_q0_31 (k := 2) rfl
          refine tr_getK q54 d_TrustDesk_spareOf_61 f_TrustDesk_26_12 ?_
          refine mv_aload d_TrustDesk_spareOf_64 rfl ?_
          obtain ⟨a57, q56, t_a57⟩ := tm_atR I_31 t_a48 (k := 0) rfl
          refine tr_getK q56 d_TrustDesk_spareOf_66 f_TrustDesk_204_3 ?_
          obtain ⟨a59, q58, t_a59⟩ := tm_atR I_31 t_a57 (k := 3) rfl
          refine tr_getK q58 d_TrustDesk_spareOf_69 f_TrustDesk_208_4 ?_
          obtain ⟨_, b66, -⟩ := I_31.1 _ _ t_a55
          refine mv_callV (kc' := 0) (ks' := 0) (As := [.ref a59]) (st9 := [.ref a59, .ref a55]) d_TrustDesk_spareOf_72 lV_TrustDesk_214 b66 rfl (tc_Reckoner_run (d := d) (x9 := x9) (o0 := a55) (o1 := a59) t_a55 t_a59 I_31.start) rfl (Nat.le_of_ble_eq_true rfl) (Nat.le_of_ble_eq_true rfl) (Nat.le_of_ble_eq_true rfl) (hst := rfl) (fun b60r M61 n62 b60 => ?_)
          obtain ⟨T63, J64, v67, rfl⟩ := b60
          have I65 := I_31.call J64 (tm_sub (by decide)) (Or.inl rfl)
          have t68 := J64.up t_a48
          have t69 := J64.up h_q0_31
          have t70 := J64.up h_q1_31
          have q71 := J64.keep h_q1_31 (by decide) q32
          have t72 := J64.up t_a33
          have q73 := J64.keepL t_a33 (by decide) q40
          have q74 := J64.keep t_a48 (by decide) q50
          have q75 := J64.keep h_q0_31 (by decide) q54
          have t76 := J64.up t_a55
          have q77 := J64.keep t_a48 (by decide) q56
          have t78 := J64.up t_a57
          have q79 := J64.keep t_a57 (by decide) q58
          have t80 := J64.up t_a59
          refine mv_lconst (v := 0) d_TrustDesk_spareOf_75 (by decide) ?_
          refine mv_leqZ (tgt := 102) (a := v67.toInt) (b := 0) d_TrustDesk_spareOf_76 d_TrustDesk_spareOf_77 (by decide) rfl (by decide) (fun b81 => ?_) (fun b81 => ?_)
          · refine mv_iinc (v := (i4_31 + 1)) (lv' := [(4, .int (i4_31 + 1)), (5, .ref a48), (2, .long l2_31), (0, .ref o0), (1, .ref o1)]) d_TrustDesk_spareOf_102 rfl rfl (by decide) rfl ?_
            refine mv_goto (tgt := 26) d_TrustDesk_spareOf_105 (by decide) ?_
            refine mv_locals (lv' := [(4, .int (i4_31 + 1)), (2, .long l2_31), (0, .ref o0), (1, .ref o1)]) (by intro q hq; simp only [List.mem_cons, List.not_mem_nil, or_false] at hq; rcases hq with rfl | rfl | rfl | rfl <;> rfl) ?_
            have b82 : (i4_31 + 1).toInt = i4_31.toInt + 1 := mz_addn 1 1 (by decide) (by have := mz_lo i4_31; omega) (by have := mz_hi i4_31; omega)
            exact (ih31 (i4_31 + 1) l2_31 T63 M61 n62 I65 t69 t70 (by first | omega | decide) (by omega))
          · refine mv_lload_n d_TrustDesk_spareOf_80 rfl rfl ?_
            refine mv_lconst (v := 0) d_TrustDesk_spareOf_81 (by decide) ?_
            refine mv_aload_n d_TrustDesk_spareOf_82 rfl rfl ?_
            refine tr_getK (k := 2) q75 d_TrustDesk_spareOf_83 f_TrustDesk_26_12 ?_
            refine mv_aload d_TrustDesk_spareOf_86 rfl ?_
            refine tr_getK (k := 0) q77 d_TrustDesk_spareOf_88 f_TrustDesk_204_3 ?_
            obtain ⟨a84, q83, t_a84⟩ := tm_atR I65 t78 (k := 2) rfl
            refine tr_getK q83 d_TrustDesk_spareOf_91 f_TrustDesk_225_4 ?_
            obtain ⟨_, b91, -⟩ := I65.1 _ _ t76
            refine mv_callV (kc' := 0) (ks' := 0) (As := [.ref a84]) (st9 := [.ref a84, .ref a55, .long 0, .long l2_31]) d_TrustDesk_spareOf_94 lV_TrustDesk_214 b91 rfl (tc_Reckoner_run (d := d) (x9 := x9) (o0 := a55) (o1 := a84) t76 t_a84 I65.start) rfl (Nat.le_of_ble_eq_true rfl) (Nat.le_of_ble_eq_true rfl) (Nat.le_of_ble_eq_true rfl) (hst := rfl) (fun b85r M86 n87 b85 => ?_)
            obtain ⟨T88, J89, v92, rfl⟩ := b85
            have I90 := I65.call J89 (tm_sub (by decide)) (Or.inl rfl)
            have t93 := J89.up t68
            have t94 := J89.up t69
            have t95 := J89.up t70
            have q96 := J89.keep t70 (by decide) q71
            have t97 := J89.up t72
            have q98 := J89.keepL t72 (by decide) q73
            have q99 := J89.keep t68 (by decide) q74
            have q100 := J89.keep t69 (by decide) q75
            have t101 := J89.up t76
            have q102 := J89.keep t68 (by decide) q77
            have t103 := J89.up t78
            have q104 := J89.keep t78 (by decide) q79
            have t105 := J89.up t80
            have q106 := J89.keep t78 (by decide) q83
            have t107 := J89.up t_a84
            refine mv_mmax_long (v := (if v92 < 0 then 0 else v92)) d_TrustDesk_spareOf_97 (mj_in1 (List.mem_of_getElem? (i := 920) (by decide +kernel)) rfl) (Nat.le_of_ble_eq_true rfl) rfl ?_
            refine mv_lsub d_TrustDesk_spareOf_100 ?_
            refine mv_lstore_n (lv' := [(2, .long (l2_31 - (if v92 < 0 then 0 else v92))), (5, .ref a48), (4, .int i4_31), (0, .ref o0), (1, .ref o1)]) d_TrustDesk_spareOf_101 rfl (by decide) rfl ?_
            refine mv_iinc (v := (i4_31 + 1)) (lv' := [(4, .int (i4_31 + 1)), (2, .long (l2_31 - (if v92 < 0 then 0 else v92))), (5, .ref a48), (0, .ref o0), (1, .ref o1)]) d_TrustDesk_spareOf_102 rfl rfl (by decide) rfl ?_
            refine mv_goto (tgt := 26) d_TrustDesk_spareOf_105 (by decide) ?_
            refine mv_locals (lv' := [(4, .int (i4_31 + 1)), (2, .long (l2_31 - (if v92 < 0 then 0 else v92))), (0, .ref o0), (1, .ref o1)]) (by intro q hq; simp only [List.mem_cons, List.not_mem_nil, or_false] at hq; rcases hq with rfl | rfl | rfl | rfl <;> rfl) ?_
            have b108 : (i4_31 + 1).toInt = i4_31.toInt + 1 := mz_addn 1 1 (by decide) (by have := mz_lo i4_31; omega) (by have := mz_hi i4_31; omega)
            exact (ih31 (i4_31 + 1) (l2_31 - (if v92 < 0 then 0 else v92)) T88 M86 n87 I90 t94 t95 (by first | omega | decide) (by omega))
  exact mv_less (Nat.zero_le _) (Nat.zero_le _) (L26_31 4294967296 0 v24 T20 M18 n19 I22 t25 t26 (by first | omega | decide) (by show (2147483647 - (0 : Int) : Int) < _; decide))
theorem lV_TrustDesk_502 : mj_lV "TrustDesk" 502 kY_TrustDesk_spareOf 1 := ⟨⟨(mj_in1 (List.mem_of_getElem? (i := 1231) (by decide +kernel)) rfl), (mj_in1 (List.mem_of_getElem? (i := 1) (by decide +kernel)) rfl), (mj_in1 (List.mem_of_getElem? (i := 1234) (by decide +kernel)) rfl), by decide, rfl, by decide⟩, (mj_in1 (List.mem_of_getElem? (i := 1233) (by decide +kernel)) rfl), (mj_in (List.mem_append_left _ (List.mem_of_getElem? (i := 69) (by decide +kernel))) rfl)⟩
theorem d_TrustDesk_gather_97 : decode kY_TrustDesk_gather.2.1 97 = .ok (.aload_n 3, 1) := by decide +kernel
theorem d_TrustDesk_gather_98 : decode kY_TrustDesk_gather.2.1 98 = .ok (.getfield 489, 3) := by decide +kernel
theorem f_TrustDesk_489_6 : mj_fl "TrustDesk" 489 6 9 := ⟨kR_Fund, kF_Fund, 15, "TrustDesk$Fund", rfl, kg_6, by decide, (mj_in1 (List.mem_of_getElem? (i := 686) (by decide +kernel)) rfl), Or.inl rfl⟩
theorem d_TrustDesk_gather_101 : decode kY_TrustDesk_gather.2.1 101 = .ok (.invokevirtual 505, 3) := by decide +kernel
abbrev kY_Grouping_take : mj_Y := (⟨"TrustDesk$Grouping", "take", "(IJI)V"⟩, prog_8_method_3_code, 5, (Option.none : Option Jvm.ClassFile.FieldType))
theorem d_Grouping_take_0 : decode kY_Grouping_take.2.1 0 = .ok (.aload_n 0, 1) := by decide +kernel
theorem d_Grouping_take_1 : decode kY_Grouping_take.2.1 1 = .ok (.getfield 44, 3) := by decide +kernel
theorem f_Grouping_44_7 : mj_fl "TrustDesk$Grouping" 44 7 2 := ⟨kR_Grouping, kF_Grouping, 14, "TrustDesk$Grouping", rfl, kg_7, by decide, (mj_in1 (List.mem_of_getElem? (i := 164) (by decide +kernel)) rfl), Or.inl rfl⟩
theorem d_Grouping_take_4 : decode kY_Grouping_take.2.1 4 = .ok (.ifCond .lt 12, 3) := by decide +kernel
theorem d_Grouping_take_16 : decode kY_Grouping_take.2.1 16 = .ok (.return_, 1) := by decide +kernel
theorem d_Grouping_take_7 : decode kY_Grouping_take.2.1 7 = .ok (.aload_n 0, 1) := by decide +kernel
theorem d_Grouping_take_8 : decode kY_Grouping_take.2.1 8 = .ok (.getfield 44, 3) := by decide +kernel
theorem d_Grouping_take_11 : decode kY_Grouping_take.2.1 11 = .ok (.bipush 8, 2) := by decide +kernel
theorem d_Grouping_take_13 : decode kY_Grouping_take.2.1 13 = .ok (.if_icmp .lt 4, 3) := by decide +kernel
theorem d_Grouping_take_17 : decode kY_Grouping_take.2.1 17 = .ok (.aload_n 0, 1) := by decide +kernel
theorem d_Grouping_take_18 : decode kY_Grouping_take.2.1 18 = .ok (.getfield 9, 3) := by decide +kernel
theorem f_Grouping_9_7 : mj_fl "TrustDesk$Grouping" 9 7 4 := ⟨kR_Grouping, kF_Grouping, 14, "TrustDesk$Grouping", rfl, kg_7, by decide, (mj_in1 (List.mem_of_getElem? (i := 166) (by decide +kernel)) rfl), Or.inl rfl⟩
theorem d_Grouping_take_21 : decode kY_Grouping_take.2.1 21 = .ok (.aload_n 0, 1) := by decide +kernel
theorem d_Grouping_take_22 : decode kY_Grouping_take.2.1 22 = .ok (.getfield 44, 3) := by decide +kernel
theorem d_Grouping_take_25 : decode kY_Grouping_take.2.1 25 = .ok (.iload_n 1, 1) := by decide +kernel
theorem d_Grouping_take_26 : decode kY_Grouping_take.2.1 26 = .ok (.iastore, 1) := by decide +kernel
theorem d_Grouping_take_27 : decode kY_Grouping_take.2.1 27 = .ok (.aload_n 0, 1) := by decide +kernel
theorem d_Grouping_take_28 : decode kY_Grouping_take.2.1 28 = .ok (.getfield 15, 3) := by decide +kernel
theorem f_Grouping_15_7 : mj_fl "TrustDesk$Grouping" 15 7 5 := ⟨kR_Grouping, kF_Grouping, 14, "TrustDesk$Grouping", rfl, kg_7, by decide, (mj_in1 (List.mem_of_getElem? (i := 167) (by decide +kernel)) rfl), Or.inl rfl⟩
theorem d_Grouping_take_31 : decode kY_Grouping_take.2.1 31 = .ok (.aload_n 0, 1) := by decide +kernel
theorem d_Grouping_take_32 : decode kY_Grouping_take.2.1 32 = .ok (.getfield 44, 3) := by decide +kernel
theorem d_Grouping_take_35 : decode kY_Grouping_take.2.1 35 = .ok (.lload_n 2, 1) := by decide +kernel
theorem d_Grouping_take_36 : decode kY_Grouping_take.2.1 36 = .ok (.lastore, 1) := by decide +kernel
theorem d_Grouping_take_37 : decode kY_Grouping_take.2.1 37 = .ok (.aload_n 0, 1) := by decide +kernel
theorem d_Grouping_take_38 : decode kY_Grouping_take.2.1 38 = .ok (.getfield 19, 3) := by decide +kernel
theorem f_Grouping_19_7 : mj_fl "TrustDesk$Grouping" 19 7 6 := ⟨kR_Grouping, kF_Grouping, 14, "TrustDesk$Grouping", rfl, kg_7, by decide, (mj_in1 (List.mem_of_getElem? (i := 168) (by decide +kernel)) rfl), Or.inl rfl⟩
theorem d_Grouping_take_41 : decode kY_Grouping_take.2.1 41 = .ok (.aload_n 0, 1) := by decide +kernel
theorem d_Grouping_take_42 : decode kY_Grouping_take.2.1 42 = .ok (.getfield 44, 3) := by decide +kernel
theorem d_Grouping_take_45 : decode kY_Grouping_take.2.1 45 = .ok (.iload 4, 2) := by decide +kernel
theorem d_Grouping_take_47 : decode kY_Grouping_take.2.1 47 = .ok (.iastore, 1) := by decide +kernel
theorem d_Grouping_take_48 : decode kY_Grouping_take.2.1 48 = .ok (.aload_n 0, 1) := by decide +kernel
theorem d_Grouping_take_49 : decode kY_Grouping_take.2.1 49 = .ok (.dup, 1) := by decide +kernel
theorem d_Grouping_take_50 : decode kY_Grouping_take.2.1 50 = .ok (.getfield 44, 3) := by decide +kernel
theorem d_Grouping_take_53 : decode kY_Grouping_take.2.1 53 = .ok (.iconst 1, 1) := by decide +kernel
theorem d_Grouping_take_54 : decode kY_Grouping_take.2.1 54 = .ok (.iadd, 1) := by decide +kernel
theorem d_Grouping_take_55 : decode kY_Grouping_take.2.1 55 = .ok (.putfield 44, 3) := by decide +kernel
theorem d_Grouping_take_58 : decode kY_Grouping_take.2.1 58 = .ok (.return_, 1) := by decide +kernel
def w_Grouping_take : List Nat := [702, 754, 755, 756]
theorem tc_Grouping_take {g : mj_G} {l : Launch} {d : Nat} {T0 : tm_H} {M0 : mj_M} {n0 x9 : Nat} {o0 : Nat} {x1 : Int32} {x2 : Int64} {x3 : Int32} (h_o0 : T0 o0 = some (0, 7, 0)) (I0 : tm_I tm_FT (tm_in w_Grouping_take) x9 T0 M0 n0 T0 M0 n0) : mj_Met g l kY_Grouping_take d [.ref o0, .int x1, .long x2, .int x3] M0 n0 0 0 (tm_Q tm_FT (tm_in w_Grouping_take) x9 T0 M0 n0 (fun r _ _ => r = none)) := by
  refine mj_enter (by decide) (Nat.le_of_ble_eq_true rfl) ?_
  refine mv_aload_n d_Grouping_take_0 rfl rfl ?_
  obtain ⟨v2, q1⟩ := tm_atI I0 h_o0 (k := 2) rfl
  refine tr_getK q1 d_Grouping_take_1 f_Grouping_44_7 ?_
  have := mz_hi v2
  refine mv_if_ltZ (tgt := 16) (a := v2.toInt) d_Grouping_take_4 (by decide) rfl (fun b3 => ?_) (fun b3 => ?_)
  · exact mv_vret d_Grouping_take_16 rfl ⟨_, I0, rfl⟩
  · refine mv_aload_n d_Grouping_take_7 rfl rfl ?_
    refine tr_getK (k := 2) q1 d_Grouping_take_8 f_Grouping_44_7 ?_
    refine mv_bipush (v := 8) d_Grouping_take_11 (by decide) ?_
    have := mz_hi v2
    refine mv_icmp_ltZ (tgt := 17) (a := v2.toInt) (b := 8) d_Grouping_take_13 (by decide) rfl (by decide) (fun b4 => ?_) (fun b4 => ?_)
    · refine mv_aload_n d_Grouping_take_17 rfl rfl ?_
      obtain ⟨a6, q5, t_a6⟩ := tm_atR I0 h_o0 (k := 4) rfl
      refine tr_getK q5 d_Grouping_take_18 f_Grouping_9_7 ?_
      refine mv_aload_n d_Grouping_take_21 rfl rfl ?_
      refine tr_getK (k := 2) q1 d_Grouping_take_22 f_Grouping_44_7 ?_
      refine mv_iload_n d_Grouping_take_25 rfl rfl ?_
      refine tr_iastK tm_okF I0 t_a6 (by decide) (Or.inl (by decide)) d_Grouping_take_26 (vp_in_iff.mpr (by omega)) (fun M7 I8 K9 => ?_)
      refine mv_aload_n d_Grouping_take_27 rfl rfl ?_
      obtain ⟨a11, q10, t_a11⟩ := tm_atR I8 h_o0 (k := 5) rfl
      refine tr_getK q10 d_Grouping_take_28 f_Grouping_15_7 ?_
      refine mv_aload_n d_Grouping_take_31 rfl rfl ?_
      refine tr_getK (k := 2) (K9 _ 7 2 _ q1) d_Grouping_take_32 f_Grouping_44_7 ?_
      refine mv_lload_n d_Grouping_take_35 rfl rfl ?_
      refine tr_lastK tm_okF I8 t_a11 (by decide) (Or.inl (by decide)) d_Grouping_take_36 (vp_in_iff.mpr (by omega)) (fun M12 I13 K14 => ?_)
      refine mv_aload_n d_Grouping_take_37 rfl rfl ?_
      obtain ⟨a16, q15, t_a16⟩ := tm_atR I13 h_o0 (k := 6) rfl
      refine tr_getK q15 d_Grouping_take_38 f_Grouping_19_7 ?_
      refine mv_aload_n d_Grouping_take_41 rfl rfl ?_
      refine tr_getK (k := 2) (K14 _ 7 2 _ (K9 _ 7 2 _ q1)) d_Grouping_take_42 f_Grouping_44_7 ?_
      refine mv_iload d_Grouping_take_45 rfl ?_
      refine tr_iastK tm_okF I13 t_a16 (by decide) (Or.inl (by decide)) d_Grouping_take_47 (vp_in_iff.mpr (by omega)) (fun M17 I18 K19 => ?_)
      refine mv_aload_n d_Grouping_take_48 rfl rfl ?_
      refine mv_dup d_Grouping_take_49 rfl ?_
      refine tr_getK (k := 2) (K19 _ 7 2 _ (K14 _ 7 2 _ (K9 _ 7 2 _ q1))) d_Grouping_take_50 f_Grouping_44_7 ?_
      refine mv_iconst (v := 1) d_Grouping_take_53 (by decide) ?_
      refine mv_iadd d_Grouping_take_54 ?_
      refine tr_putK tm_okF I18 h_o0 (k := 2) rfl ⟨_, rfl⟩ (Or.inl (by decide)) d_Grouping_take_55 p_Grouping_44_7 rfl rfl (fun M20 I21 q22 K23 => ?_)
      exact mv_vret d_Grouping_take_58 rfl ⟨_, I21, rfl⟩
    · exact mv_vret d_Grouping_take_16 rfl ⟨_, I0, rfl⟩
theorem lV_TrustDesk_505 : mj_lV "TrustDesk" 505 kY_Grouping_take 3 := ⟨⟨(mj_in1 (List.mem_of_getElem? (i := 1235) (by decide +kernel)) rfl), (mj_in1 (List.mem_of_getElem? (i := 5) (by decide +kernel)) rfl), (mj_in1 (List.mem_of_getElem? (i := 1238) (by decide +kernel)) rfl), by decide, rfl, by decide⟩, (mj_in1 (List.mem_of_getElem? (i := 1236) (by decide +kernel)) rfl), (mj_in1 (List.mem_of_getElem? (i := 1237) (by decide +kernel)) rfl)⟩
theorem d_TrustDesk_gather_8 : decode kY_TrustDesk_gather.2.1 8 = .ok (.iconst 0, 1) := by decide +kernel
theorem d_TrustDesk_gather_9 : decode kY_TrustDesk_gather.2.1 9 = .ok (.ireturn, 1) := by decide +kernel
def w_TrustDesk_gather : List Nat := [700, 701, 702, 703, 754, 755, 756, 759, 760, 761, 1001, 1003, 1004, 1050, 1052]
theorem tc_TrustDesk_gather {g : mj_G} {l : Launch} {d : Nat} {T0 : tm_H} {M0 : mj_M} {n0 x9 : Nat} {o0 : Nat} {x1 : Int32} (h_o0 : T0 o0 = some (0, 12, 0)) (I0 : tm_I tm_FT (tm_in w_TrustDesk_gather) x9 T0 M0 n0 T0 M0 n0) : mj_Met g l kY_TrustDesk_gather (d + 5) [.ref o0, .int x1] M0 n0 0 0 (tm_Q tm_FT (tm_in w_TrustDesk_gather) x9 T0 M0 n0 (fun r _ _ => ∃ v : Int32, r = some (.int v) ∧ 0 ≤ v.toInt ∧ v.toInt ≤ 1)) := by
  refine mj_enter (by decide) (Nat.le_of_ble_eq_true rfl) ?_
  refine mv_aload_n d_TrustDesk_gather_0 rfl rfl ?_
  refine mv_iload_n d_TrustDesk_gather_1 rfl rfl ?_
  obtain ⟨_, b7, -⟩ := I0.1 _ _ h_o0
  refine mv_callV (kc' := 0) (ks' := 0) (As := [.int x1]) (st9 := [.int x1, .ref o0]) d_TrustDesk_gather_2 lV_TrustDesk_496 b7 rfl (tc_TrustDesk_canGather (d := (d + 1)) (x9 := x9) (o0 := o0) (x1 := x1) h_o0 I0.start) rfl (Nat.le_of_ble_eq_true rfl) (Nat.le_of_ble_eq_true rfl) (Nat.le_of_ble_eq_true rfl) (hst := rfl) (fun b1r M2 n3 b1 => ?_)
  obtain ⟨T4, J5, v8, rfl, b9, b10⟩ := b1
  have I6 := I0.call J5 (tm_sub (by decide)) (Or.inl rfl)
  have t11 := J5.up h_o0
  have := mz_hi v8
  refine mv_if_neZ (tgt := 10) (a := v8.toInt) d_TrustDesk_gather_5 (by decide) rfl (fun b12 => ?_) (fun b12 => ?_)
  · refine mv_aload_n d_TrustDesk_gather_10 rfl rfl ?_
    obtain ⟨a14, q13, t_a14⟩ := tm_atR I6 t11 (k := 3) rfl
    refine tr_getK q13 d_TrustDesk_gather_11 f_TrustDesk_33_12 ?_
    refine mv_aload_n d_TrustDesk_gather_14 rfl rfl ?_
    refine mv_aload_n d_TrustDesk_gather_15 rfl rfl ?_
    obtain ⟨v16, q15⟩ := tm_atI I6 t11 (k := 12) rfl
    refine tr_getK q15 d_TrustDesk_gather_16 f_TrustDesk_73_12 ?_
    obtain ⟨_, b23, -⟩ := I6.1 _ _ t11
    refine mv_callV (kc' := 0) (ks' := 0) (As := [.int v16]) (st9 := [.int v16, .ref o0, .ref a14]) d_TrustDesk_gather_19 lV_TrustDesk_114 b23 rfl (tc_TrustDesk_inForce (d := (d + 1)) (x9 := x9) (o0 := o0) (x1 := v16) t11 I6.start) rfl (Nat.le_of_ble_eq_true rfl) (Nat.le_of_ble_eq_true rfl) (Nat.le_of_ble_eq_true rfl) (hst := rfl) (fun b17r M18 n19 b17 => ?_)
    obtain ⟨T20, J21, a24, rfl, t_a24⟩ := b17
    have I22 := I6.call J21 (tm_sub (by decide)) (Or.inl rfl)
    have t25 := J21.up t11
    have t26 := J21.up t_a14
    have q27 := J21.keep t11 (by decide) q13
    have q28 := J21.keep t11 (by decide) q15
    refine mv_iconst (v := 1) d_TrustDesk_gather_22 (by decide) ?_
    obtain ⟨_, b35, -⟩ := I22.1 _ _ t_a24
    refine mv_callV (kc' := 0) (ks' := 0) (As := [.int 1]) (st9 := [.int 1, .ref a24, .ref a14]) d_TrustDesk_gather_23 lV_TrustDesk_118 b35 rfl (tc_Act_rule (d := (d + 4)) (x9 := x9) (o0 := a24) (x1 := 1) t_a24 I22.start) rfl (Nat.le_of_ble_eq_true rfl) (Nat.le_of_ble_eq_true rfl) (Nat.le_of_ble_eq_true rfl) (hst := rfl) (fun b29r M30 n31 b29 => ?_)
    obtain ⟨T32, J33, v36, rfl⟩ := b29
    have I34 := I22.call J33 (tm_sub (by decide)) (Or.inl rfl)
    have t37 := J33.up t25
    have t38 := J33.up t26
    have q39 := J33.keep t25 (by decide) q27
    have q40 := J33.keep t25 (by decide) q28
    obtain ⟨_, b47, -⟩ := I34.1 _ _ t38
    refine mv_callV (kc' := 0) (ks' := 0) (As := [.int v36]) (st9 := [.int v36, .ref a14]) d_TrustDesk_gather_26 lV_TrustDesk_499 b47 rfl (tc_Grouping_clear (d := (d + 4)) (x9 := x9) (o0 := a14) (x1 := v36) t38 I34.start) rfl (Nat.le_of_ble_eq_true rfl) (Nat.le_of_ble_eq_true rfl) (Nat.le_of_ble_eq_true rfl) (hst := rfl) (fun b41r M42 n43 b41 => ?_)
    obtain ⟨T44, J45, rfl⟩ := b41
    have I46 := I34.call J45 (tm_sub (by decide)) (Or.inl rfl)
    have t48 := J45.up t37
    have q49 := J45.keep t37 (by decide) q39
    have t50 := J45.up t38
    have q51 := J45.keep t37 (by decide) q40
    refine mv_aload_n d_TrustDesk_gather_29 rfl rfl ?_
    obtain ⟨a53, q52, t_a53⟩ := tm_atR I46 t48 (k := 2) rfl
    refine tr_getK q52 d_TrustDesk_gather_30 f_TrustDesk_26_12 ?_
    refine mv_aload_n d_TrustDesk_gather_33 rfl rfl ?_
    obtain ⟨a55, q54, t_a55⟩ := tm_atR I46 t48 (k := 0) rfl
    refine tr_getK q54 d_TrustDesk_gather_34 f_TrustDesk_10_12 ?_
    refine mv_aload_n d_TrustDesk_gather_37 rfl rfl ?_
    refine tr_getK (k := 12) q51 d_TrustDesk_gather_38 f_TrustDesk_73_12 ?_
    refine mv_callS (kc' := 0) (ks' := 0) (As := [.int v16]) (st9 := [.int v16, .ref a55, .ref a53]) d_TrustDesk_gather_41 lS_TrustDesk_366 (tc_TrustDesk_yearOf (d := (d + 4)) (x9 := x9) (x1 := v16)  I46.start) rfl (Nat.le_of_ble_eq_true rfl) (Nat.le_of_ble_eq_true rfl) (Nat.le_of_ble_eq_true rfl) (hst := rfl) (fun b56r M57 n58 b56 => ?_)
    obtain ⟨T59, J60, v62, rfl⟩ := b56
    have I61 := I46.call J60 (tm_sub (by decide)) (Or.inl rfl)
    have t63 := J60.up t48
    have t64 := J60.up t_a55
    have t65 := J60.up t_a53
    have q66 := J60.keep t48 (by decide) q49
    have t67 := J60.up t50
    have q68 := J60.keep t48 (by decide) q51
    have q69 := J60.keep t48 (by decide) q52
    have q70 := J60.keep t48 (by decide) q54
    refine mv_aload_n d_TrustDesk_gather_44 rfl rfl ?_
    refine tr_getK (k := 12) q68 d_TrustDesk_gather_45 f_TrustDesk_73_12 ?_
    obtain ⟨_, b77, -⟩ := I61.1 _ _ t65
    refine mv_callV (kc' := 0) (ks' := 0) (As := [.ref a55, .int v62, .int v16]) (st9 := [.int v16, .int v62, .ref a55, .ref a53]) d_TrustDesk_gather_48 lV_TrustDesk_154 b77 rfl (tc_Reckoner_know (d := (d + 3)) (x9 := x9) (o0 := a53) (o1 := a55) (x2 := v62) (x3 := v16) t65 t64 I61.start) rfl (Nat.le_of_ble_eq_true rfl) (Nat.le_of_ble_eq_true rfl) (Nat.le_of_ble_eq_true rfl) (hst := rfl) (fun b71r M72 n73 b71 => ?_)
    obtain ⟨T74, J75, rfl⟩ := b71
    have I76 := I61.call J75 (tm_sub (by decide)) (Or.inl rfl)
    have t78 := J75.up t63
    have q79 := J75.keep t63 (by decide) q66
    have t80 := J75.up t67
    have q81 := J75.keep t63 (by decide) q68
    have q82 := J75.keep t63 (by decide) q69
    have t83 := J75.up t65
    have q84 := J75.keep t63 (by decide) q70
    have t85 := J75.up t64
    refine mv_iconst (v := 0) d_TrustDesk_gather_51 (by decide) ?_
    refine mv_istore_n (lv' := [(2, .int 0), (0, .ref o0), (1, .int x1)]) d_TrustDesk_gather_52 rfl (by decide) rfl ?_
    have L53_86 : ∀ (k : Nat) (i2_86 : Int32) (T_86 : tm_H) (M_86 : mj_M) (n_86 : Nat), tm_I tm_FT (tm_in w_TrustDesk_gather) x9 T0 M0 n0 T_86 M_86 n_86 → T_86 o0 = some (0, 12, 0) → 0 ≤ i2_86.toInt → 2147483647 - i2_86.toInt < (k : Int) → mj_V g l kY_TrustDesk_gather (d + 5) 53 [(2, .int i2_86), (0, .ref o0), (1, .int x1)] [] M_86 n_86 0 0 (tm_Q tm_FT (tm_in w_TrustDesk_gather) x9 T0 M0 n0 (fun r _ _ => ∃ v : Int32, r = some (.int v) ∧ 0 ≤ v.toInt ∧ v.toInt ≤ 1)) := by
      intro k86
      induction k86 with
      | zero =>
        intro i2_86 T_86 M_86 n_86 I_86 h_q0_86 iv0_86 hk86
        have := mz_hi i2_86
        omega
      | succ k86 ih86 =>
        intro i2_86 T_86 M_86 n_86 I_86 h_q0_86 iv0_86 hk86
        refine mv_iload_n d_TrustDesk_gather_53 rfl rfl ?_
        refine mv_aload_n d_TrustDesk_gather_54 rfl rfl ?_
        obtain ⟨a88, q87, t_a88⟩ := tm_atO I_86 h_q0_86 (k := 6) rfl
        refine tr_getK q87 d_TrustDesk_gather_55 f_TrustDesk_53_12 ?_
        obtain ⟨m90, n94, e91, N92, f93, h89⟩ := I_86.1 _ _ t_a88
        have := h89.2.1
        have : n94.toInt ≤ 12 := h89.2.2.1
        have q95 : tm_at M_86 a88 0 2 (.int n94) := ⟨_, h89.1, rfl⟩
        refine mv_callV_s (kc' := 0) (ks' := 0) [] [.ref a88, .int i2_86] d_TrustDesk_gather_58 lV_TrustDesk_97 h89.1 rfl (tc_L_size (d := (d + 4)) h89.1) rfl (Nat.le_of_ble_eq_true rfl) (Nat.le_of_ble_eq_true rfl) (Nat.le_of_ble_eq_true rfl) rfl ?_
        have := mz_hi i2_86
        have := mz_hi n94
        refine mv_icmp_geZ (tgt := 110) (a := i2_86.toInt) (b := n94.toInt) d_TrustDesk_gather_61 (by decide) rfl rfl (fun b96 => ?_) (fun b96 => ?_)
        · refine mv_iconst (v := 1) d_TrustDesk_gather_110 (by decide) ?_
          exact mv_iret d_TrustDesk_gather_111 rfl (by decide) ⟨_, I_86, _, rfl, by decide, by decide⟩
        · refine mv_iload_n d_TrustDesk_gather_64 rfl rfl ?_
          refine mv_iload_n d_TrustDesk_gather_65 rfl rfl ?_
          refine mv_ishr d_TrustDesk_gather_66 ?_
          refine mv_iconst (v := 1) d_TrustDesk_gather_67 (by decide) ?_
          refine mv_iand d_TrustDesk_gather_68 ?_
          have := mz_hi ((x1 >>> (i2_86 &&& 31)) &&& 1)
          refine mv_if_eqZ (tgt := 104) (a := ((x1 >>> (i2_86 &&& 31)) &&& 1).toInt) d_TrustDesk_gather_69 (by decide) rfl (fun b97 => ?_) (fun b97 => ?_)
          · refine mv_iinc (v := (i2_86 + 1)) (lv' := [(2, .int (i2_86 + 1)), (0, .ref o0), (1, .int x1)]) d_TrustDesk_gather_104 rfl rfl (by decide) rfl ?_
            refine mv_goto (tgt := 53) d_TrustDesk_gather_107 (by decide) ?_
            have b98 : (i2_86 + 1).toInt = i2_86.toInt + 1 := mz_addn 1 1 (by decide) (by have := mz_lo i2_86; omega) (by have := mz_hi i2_86; omega)
            exact (ih86 (i2_86 + 1) T_86 M_86 n_86 I_86 h_q0_86 (by first | omega | decide) (by omega))
          · refine mv_aload_n d_TrustDesk_gather_72 rfl rfl ?_
            refine tr_getK (k := 6) q87 d_TrustDesk_gather_73 f_TrustDesk_53_12 ?_
            refine mv_iload_n d_TrustDesk_gather_76 rfl rfl ?_
            obtain ⟨m100, e101, N102, f103, h99⟩ := tm_lsn I_86 t_a88 q95
            obtain ⟨u104e, u104i, a105, u104f, u104t⟩ := tm_el (i := i2_86) h99 (by omega) (by omega)
            have t_a105 : T_86 a105 = some (0, 6, 0) := u104t
            refine mv_callV_s (kc' := 0) (ks' := 0) [.int i2_86] [.int i2_86, .ref a88] d_TrustDesk_gather_77 lV_TrustDesk_158 h99.1 rfl (tc_L_get (d := (d + 2)) h99.1 u104e (by omega) (by omega) u104i u104f) rfl (Nat.le_of_ble_eq_true rfl) (Nat.le_of_ble_eq_true rfl) (Nat.le_of_ble_eq_true rfl) rfl ?_
            obtain ⟨_, b106, -⟩ := I_86.1 _ _ t_a105
            refine mv_castS (T9 := kF_Fund) (N := 15) d_TrustDesk_gather_80 (mj_in1 (List.mem_of_getElem? (i := 655) (by decide +kernel)) rfl) b106 rfl ?_
            refine mv_astore_n (lv' := [(3, .ref a105), (2, .int i2_86), (0, .ref o0), (1, .int x1)]) d_TrustDesk_gather_83 rfl (by decide) rfl ?_
            refine mv_aload_n d_TrustDesk_gather_84 rfl rfl ?_
            obtain ⟨a108, q107, t_a108⟩ := tm_atR I_86 h_q0_86 (k := 3) rfl
            refine tr_getK q107 d_TrustDesk_gather_85 f_TrustDesk_33_12 ?_
            refine mv_aload_n d_TrustDesk_gather_88 rfl rfl ?_
            obtain ⟨v110, q109⟩ := tm_atI I_86 t_a105 (k := 4) rfl
            refine tr_getK q109 d_TrustDesk_gather_89 f_TrustDesk_372_6 ?_
            refine mv_aload_n d_TrustDesk_gather_92 rfl rfl ?_
            refine mv_aload_n d_TrustDesk_gather_93 rfl rfl ?_
            obtain ⟨_, b117, -⟩ := I_86.1 _ _ h_q0_86
            refine mv_callV (kc' := 0) (ks' := 0) (As := [.ref a105]) (st9 := [.ref a105, .ref o0, .int v110, .ref a108]) d_TrustDesk_gather_94 lV_TrustDesk_502 b117 rfl (tc_TrustDesk_spareOf (d := d) (x9 := x9) (o0 := o0) (o1 := a105) h_q0_86 t_a105 I_86.start) rfl (Nat.le_of_ble_eq_true rfl) (Nat.le_of_ble_eq_true rfl) (Nat.le_of_ble_eq_true rfl) (hst := rfl) (fun b111r M112 n113 b111 => ?_)
            obtain ⟨T114, J115, v118, rfl⟩ := b111
            have I116 := I_86.call J115 (tm_sub (by decide)) (Or.inl rfl)
            have t119 := J115.up t_a105
            have t120 := J115.up h_q0_86
            have t121 := J115.up t_a108
            have q122 := J115.keep h_q0_86 (by decide) q87
            have t123 := J115.up t_a88
            have q124 := J115.keepL t_a88 (by decide) q95
            have q125 := J115.keep h_q0_86 (by decide) q107
            have q126 := J115.keep t_a105 (by decide) q109
            refine mv_aload_n d_TrustDesk_gather_97 rfl rfl ?_
            obtain ⟨v128, q127⟩ := tm_atI I116 t119 (k := 9) rfl
            refine tr_getK q127 d_TrustDesk_gather_98 f_TrustDesk_489_6 ?_
            obtain ⟨_, b135, -⟩ := I116.1 _ _ t121
            refine mv_callV (kc' := 0) (ks' := 0) (As := [.int v110, .long v118, .int v128]) (st9 := [.int v128, .long v118, .int v110, .ref a108]) d_TrustDesk_gather_101 lV_TrustDesk_505 b135 rfl (tc_Grouping_take (d := (d + 4)) (x9 := x9) (o0 := a108) (x1 := v110) (x2 := v118) (x3 := v128) t121 I116.start) rfl (Nat.le_of_ble_eq_true rfl) (Nat.le_of_ble_eq_true rfl) (Nat.le_of_ble_eq_true rfl) (hst := rfl) (fun b129r M130 n131 b129 => ?_)
            obtain ⟨T132, J133, rfl⟩ := b129
            have I134 := I116.call J133 (tm_sub (by decide)) (Or.inl rfl)
            have t136 := J133.up t119
            have t137 := J133.up t120
            have q138 := J133.keep t120 (by decide) q122
            have t139 := J133.up t123
            have q140 := J133.keepL t123 (by decide) q124
            have q141 := J133.keep t120 (by decide) q125
            have t142 := J133.up t121
            have q143 := J133.keep t119 (by decide) q126
            have q144 := J133.keep t119 (by decide) q127
            refine mv_iinc (v := (i2_86 + 1)) (lv' := [(2, .int (i2_86 + 1)), (3, .ref a105), (0, .ref o0), (1, .int x1)]) d_TrustDesk_gather_104 rfl rfl (by decide) rfl ?_
            refine mv_goto (tgt := 53) d_TrustDesk_gather_107 (by decide) ?_
            refine mv_locals (lv' := [(2, .int (i2_86 + 1)), (0, .ref o0), (1, .int x1)]) (by intro q hq; simp only [List.mem_cons, List.not_mem_nil, or_false] at hq; rcases hq with rfl | rfl | rfl <;> rfl) ?_
            have b145 : (i2_86 + 1).toInt = i2_86.toInt + 1 := mz_addn 1 1 (by decide) (by have := mz_lo i2_86; omega) (by have := mz_hi i2_86; omega)
            exact (ih86 (i2_86 + 1) T132 M130 n131 I134 t137 (by first | omega | decide) (by omega))
    exact mv_less (Nat.zero_le _) (Nat.zero_le _) (L53_86 4294967296 0 T74 M72 n73 I76 t78 (by first | omega | decide) (by show (2147483647 - (0 : Int) : Int) < _; decide))
  · refine mv_iconst (v := 0) d_TrustDesk_gather_8 (by decide) ?_
    exact mv_iret d_TrustDesk_gather_9 rfl (by decide) ⟨_, I6, _, rfl, by decide, by decide⟩
abbrev kY_TrustDesk_group : mj_Y := (⟨"TrustDesk", "group", "(I)J"⟩, prog_1_method_49_code, 2, (Option.some Jvm.ClassFile.FieldType.long))
theorem d_TrustDesk_group_0 : decode kY_TrustDesk_group.2.1 0 = .ok (.aload_n 0, 1) := by decide +kernel
theorem d_TrustDesk_group_1 : decode kY_TrustDesk_group.2.1 1 = .ok (.iload_n 1, 1) := by decide +kernel
theorem d_TrustDesk_group_2 : decode kY_TrustDesk_group.2.1 2 = .ok (.invokevirtual 477, 3) := by decide +kernel
theorem lV_TrustDesk_477 : mj_lV "TrustDesk" 477 kY_TrustDesk_gather 1 := ⟨⟨(mj_in1 (List.mem_of_getElem? (i := 1219) (by decide +kernel)) rfl), (mj_in1 (List.mem_of_getElem? (i := 1) (by decide +kernel)) rfl), (mj_in1 (List.mem_of_getElem? (i := 1222) (by decide +kernel)) rfl), by decide, rfl, by decide⟩, (mj_in1 (List.mem_of_getElem? (i := 1221) (by decide +kernel)) rfl), (mj_in (List.mem_append_left _ (List.mem_of_getElem? (i := 67) (by decide +kernel))) rfl)⟩
theorem d_TrustDesk_group_5 : decode kY_TrustDesk_group.2.1 5 = .ok (.ifCond .ne 7, 3) := by decide +kernel
theorem d_TrustDesk_group_12 : decode kY_TrustDesk_group.2.1 12 = .ok (.aload_n 0, 1) := by decide +kernel
theorem d_TrustDesk_group_13 : decode kY_TrustDesk_group.2.1 13 = .ok (.getfield 33, 3) := by decide +kernel
theorem d_TrustDesk_group_16 : decode kY_TrustDesk_group.2.1 16 = .ok (.invokevirtual 480, 3) := by decide +kernel
abbrev kY_Grouping_search : mj_Y := (⟨"TrustDesk$Grouping", "search", "()V"⟩, prog_8_method_6_code, 6, (Option.none : Option Jvm.ClassFile.FieldType))
theorem d_Grouping_search_0 : decode kY_Grouping_search.2.1 0 = .ok (.lconst 0, 1) := by decide +kernel
theorem d_Grouping_search_1 : decode kY_Grouping_search.2.1 1 = .ok (.lstore_n 1, 1) := by decide +kernel
theorem d_Grouping_search_2 : decode kY_Grouping_search.2.1 2 = .ok (.lconst 0, 1) := by decide +kernel
theorem d_Grouping_search_3 : decode kY_Grouping_search.2.1 3 = .ok (.lstore_n 3, 1) := by decide +kernel
theorem d_Grouping_search_4 : decode kY_Grouping_search.2.1 4 = .ok (.aload_n 0, 1) := by decide +kernel
theorem d_Grouping_search_5 : decode kY_Grouping_search.2.1 5 = .ok (.getfield 37, 3) := by decide +kernel
theorem f_Grouping_37_7 : mj_fl "TrustDesk$Grouping" 37 7 12 := ⟨kR_Grouping, kF_Grouping, 14, "TrustDesk$Grouping", rfl, kg_7, by decide, (mj_in1 (List.mem_of_getElem? (i := 174) (by decide +kernel)) rfl), Or.inl rfl⟩
theorem d_Grouping_search_8 : decode kY_Grouping_search.2.1 8 = .ok (.bipush 8, 2) := by decide +kernel
theorem d_Grouping_search_10 : decode kY_Grouping_search.2.1 10 = .ok (.lconst 0, 1) := by decide +kernel
theorem d_Grouping_search_11 : decode kY_Grouping_search.2.1 11 = .ok (.lastore, 1) := by decide +kernel
theorem d_Grouping_search_12 : decode kY_Grouping_search.2.1 12 = .ok (.bipush 7, 2) := by decide +kernel
theorem d_Grouping_search_14 : decode kY_Grouping_search.2.1 14 = .ok (.istore 5, 2) := by decide +kernel
theorem d_Grouping_search_16 : decode kY_Grouping_search.2.1 16 = .ok (.iload 5, 2) := by decide +kernel
theorem d_Grouping_search_18 : decode kY_Grouping_search.2.1 18 = .ok (.ifCond .lt 51, 3) := by decide +kernel
theorem d_Grouping_search_69 : decode kY_Grouping_search.2.1 69 = .ok (.aload_n 0, 1) := by decide +kernel
theorem d_Grouping_search_70 : decode kY_Grouping_search.2.1 70 = .ok (.lconst 0, 1) := by decide +kernel
theorem d_Grouping_search_71 : decode kY_Grouping_search.2.1 71 = .ok (.lload_n 1, 1) := by decide +kernel
theorem d_Grouping_search_72 : decode kY_Grouping_search.2.1 72 = .ok (.invokestatic 68, 3) := by decide +kernel
theorem d_Grouping_search_75 : decode kY_Grouping_search.2.1 75 = .ok (.putfield 74, 3) := by decide +kernel
theorem p_Grouping_74_7 : mj_fp "TrustDesk$Grouping" 74 7 13 (kt_Grouping 13) false := ⟨kR_Grouping, kF_Grouping, 14, "TrustDesk$Grouping", kt_Grouping, rfl, kg_7, by decide, (mj_in1 (List.mem_of_getElem? (i := 175) (by decide +kernel)) rfl), Or.inl rfl, kto_Grouping, kn_Grouping, rfl, rfl, fun h => by cases h⟩
theorem d_Grouping_search_78 : decode kY_Grouping_search.2.1 78 = .ok (.aload_n 0, 1) := by decide +kernel
theorem d_Grouping_search_79 : decode kY_Grouping_search.2.1 79 = .ok (.iconst 0, 1) := by decide +kernel
theorem d_Grouping_search_80 : decode kY_Grouping_search.2.1 80 = .ok (.iconst 0, 1) := by decide +kernel
theorem d_Grouping_search_81 : decode kY_Grouping_search.2.1 81 = .ok (.invokevirtual 77, 3) := by decide +kernel
abbrev kY_Grouping_spread : mj_Y := (⟨"TrustDesk$Grouping", "spread", "(II)V"⟩, prog_8_method_7_code, 7, (Option.none : Option Jvm.ClassFile.FieldType))
theorem d_Grouping_spread_0 : decode kY_Grouping_spread.2.1 0 = .ok (.iload_n 1, 1) := by decide +kernel
theorem d_Grouping_spread_1 : decode kY_Grouping_spread.2.1 1 = .ok (.ifCond .lt 9, 3) := by decide +kernel
theorem d_Grouping_spread_10 : decode kY_Grouping_spread.2.1 10 = .ok (.return_, 1) := by decide +kernel
theorem d_Grouping_spread_4 : decode kY_Grouping_spread.2.1 4 = .ok (.iload_n 1, 1) := by decide +kernel
theorem d_Grouping_spread_5 : decode kY_Grouping_spread.2.1 5 = .ok (.bipush 8, 2) := by decide +kernel
theorem d_Grouping_spread_7 : decode kY_Grouping_spread.2.1 7 = .ok (.if_icmp .le 4, 3) := by decide +kernel
theorem d_Grouping_spread_11 : decode kY_Grouping_spread.2.1 11 = .ok (.aload_n 0, 1) := by decide +kernel
theorem d_Grouping_spread_12 : decode kY_Grouping_spread.2.1 12 = .ok (.getfield 74, 3) := by decide +kernel
theorem f_Grouping_74_7 : mj_fl "TrustDesk$Grouping" 74 7 13 := ⟨kR_Grouping, kF_Grouping, 14, "TrustDesk$Grouping", rfl, kg_7, by decide, (mj_in1 (List.mem_of_getElem? (i := 175) (by decide +kernel)) rfl), Or.inl rfl⟩
theorem d_Grouping_spread_15 : decode kY_Grouping_spread.2.1 15 = .ok (.aload_n 0, 1) := by decide +kernel
theorem d_Grouping_spread_16 : decode kY_Grouping_spread.2.1 16 = .ok (.iload_n 2, 1) := by decide +kernel
theorem d_Grouping_spread_17 : decode kY_Grouping_spread.2.1 17 = .ok (.invokevirtual 64, 3) := by decide +kernel
abbrev kY_Grouping_idleOf : mj_Y := (⟨"TrustDesk$Grouping", "idleOf", "(I)J"⟩, prog_8_method_11_code, 5, (Option.some Jvm.ClassFile.FieldType.long))
theorem d_Grouping_idleOf_0 : decode kY_Grouping_idleOf.2.1 0 = .ok (.lconst 0, 1) := by decide +kernel
theorem d_Grouping_idleOf_1 : decode kY_Grouping_idleOf.2.1 1 = .ok (.lstore_n 2, 1) := by decide +kernel
theorem d_Grouping_idleOf_2 : decode kY_Grouping_idleOf.2.1 2 = .ok (.iconst 0, 1) := by decide +kernel
theorem d_Grouping_idleOf_3 : decode kY_Grouping_idleOf.2.1 3 = .ok (.istore 4, 2) := by decide +kernel
theorem d_Grouping_idleOf_5 : decode kY_Grouping_idleOf.2.1 5 = .ok (.iload 4, 2) := by decide +kernel
theorem d_Grouping_idleOf_7 : decode kY_Grouping_idleOf.2.1 7 = .ok (.iload_n 1, 1) := by decide +kernel
theorem d_Grouping_idleOf_8 : decode kY_Grouping_idleOf.2.1 8 = .ok (.if_icmp .ge 30, 3) := by decide +kernel
theorem d_Grouping_idleOf_38 : decode kY_Grouping_idleOf.2.1 38 = .ok (.lload_n 2, 1) := by decide +kernel
theorem d_Grouping_idleOf_39 : decode kY_Grouping_idleOf.2.1 39 = .ok (.lreturn, 1) := by decide +kernel
theorem d_Grouping_idleOf_11 : decode kY_Grouping_idleOf.2.1 11 = .ok (.iload 4, 2) := by decide +kernel
theorem d_Grouping_idleOf_13 : decode kY_Grouping_idleOf.2.1 13 = .ok (.bipush 8, 2) := by decide +kernel
theorem d_Grouping_idleOf_15 : decode kY_Grouping_idleOf.2.1 15 = .ok (.if_icmp .ge 23, 3) := by decide +kernel
theorem d_Grouping_idleOf_18 : decode kY_Grouping_idleOf.2.1 18 = .ok (.lload_n 2, 1) := by decide +kernel
theorem d_Grouping_idleOf_19 : decode kY_Grouping_idleOf.2.1 19 = .ok (.lconst 0, 1) := by decide +kernel
theorem d_Grouping_idleOf_20 : decode kY_Grouping_idleOf.2.1 20 = .ok (.aload_n 0, 1) := by decide +kernel
theorem d_Grouping_idleOf_21 : decode kY_Grouping_idleOf.2.1 21 = .ok (.getfield 34, 3) := by decide +kernel
theorem d_Grouping_idleOf_24 : decode kY_Grouping_idleOf.2.1 24 = .ok (.iload 4, 2) := by decide +kernel
theorem d_Grouping_idleOf_26 : decode kY_Grouping_idleOf.2.1 26 = .ok (.laload, 1) := by decide +kernel
theorem d_Grouping_idleOf_27 : decode kY_Grouping_idleOf.2.1 27 = .ok (.invokestatic 68, 3) := by decide +kernel
theorem d_Grouping_idleOf_30 : decode kY_Grouping_idleOf.2.1 30 = .ok (.ladd, 1) := by decide +kernel
theorem d_Grouping_idleOf_31 : decode kY_Grouping_idleOf.2.1 31 = .ok (.lstore_n 2, 1) := by decide +kernel
theorem d_Grouping_idleOf_32 : decode kY_Grouping_idleOf.2.1 32 = .ok (.iinc 4 1, 3) := by decide +kernel
theorem d_Grouping_idleOf_35 : decode kY_Grouping_idleOf.2.1 35 = .ok (.goto (-30), 3) := by decide +kernel
def w_Grouping_idleOf : List Nat := []
theorem tc_Grouping_idleOf {g : mj_G} {l : Launch} {d : Nat} {T0 : tm_H} {M0 : mj_M} {n0 x9 : Nat} {o0 : Nat} {x1 : Int32} (h_o0 : T0 o0 = some (0, 7, 0)) (I0 : tm_I tm_FT (tm_in w_Grouping_idleOf) x9 T0 M0 n0 T0 M0 n0) : mj_Met g l kY_Grouping_idleOf (d + 1) [.ref o0, .int x1] M0 n0 0 0 (tm_Q tm_FT (tm_in w_Grouping_idleOf) x9 T0 M0 n0 (fun r _ _ => ∃ v : Int64, r = some (.long v))) := by
  refine mj_enter (by decide) (Nat.le_of_ble_eq_true rfl) ?_
  refine mv_lconst (v := 0) d_Grouping_idleOf_0 (by decide) ?_
  refine mv_lstore_n (lv' := [(2, .long 0), (0, .ref o0), (1, .int x1)]) d_Grouping_idleOf_1 rfl (by decide) rfl ?_
  refine mv_iconst (v := 0) d_Grouping_idleOf_2 (by decide) ?_
  refine mv_istore (lv' := [(4, .int 0), (2, .long 0), (0, .ref o0), (1, .int x1)]) d_Grouping_idleOf_3 (by decide) rfl ?_
  have L5_1 : ∀ (k : Nat) (i4_1 : Int32) (l2_1 : Int64) (T_1 : tm_H) (M_1 : mj_M) (n_1 : Nat), tm_I tm_FT (tm_in w_Grouping_idleOf) x9 T0 M0 n0 T_1 M_1 n_1 → T_1 o0 = some (0, 7, 0) → 0 ≤ i4_1.toInt → 2147483647 - i4_1.toInt < (k : Int) → mj_V g l kY_Grouping_idleOf (d + 1) 5 [(4, .int i4_1), (2, .long l2_1), (0, .ref o0), (1, .int x1)] [] M_1 n_1 0 0 (tm_Q tm_FT (tm_in w_Grouping_idleOf) x9 T0 M0 n0 (fun r _ _ => ∃ v : Int64, r = some (.long v))) := by
    intro k1
    induction k1 with
    | zero =>
      intro i4_1 l2_1 T_1 M_1 n_1 I_1 h_q0_1 iv0_1 hk1
      have := mz_hi i4_1
      omega
    | succ k1 ih1 =>
      intro i4_1 l2_1 T_1 M_1 n_1 I_1 h_q0_1 iv0_1 hk1
      refine mv_iload d_Grouping_idleOf_5 rfl ?_
      refine mv_iload_n d_Grouping_idleOf_7 rfl rfl ?_
      have := mz_hi i4_1
      have := mz_hi x1
      refine mv_icmp_geZ (tgt := 38) (a := i4_1.toInt) (b := x1.toInt) d_Grouping_idleOf_8 (by decide) rfl rfl (fun b2 => ?_) (fun b2 => ?_)
      · refine mv_lload_n d_Grouping_idleOf_38 rfl rfl ?_
        exact mv_lret d_Grouping_idleOf_39 rfl ⟨_, I_1, _, rfl⟩
      · refine mv_iload d_Grouping_idleOf_11 rfl ?_
        refine mv_bipush (v := 8) d_Grouping_idleOf_13 (by decide) ?_
        have := mz_hi i4_1
        refine mv_icmp_geZ (tgt := 38) (a := i4_1.toInt) (b := 8) d_Grouping_idleOf_15 (by decide) rfl (by decide) (fun b3 => ?_) (fun b3 => ?_)
        · refine mv_lload_n d_Grouping_idleOf_38 rfl rfl ?_
          exact mv_lret d_Grouping_idleOf_39 rfl ⟨_, I_1, _, rfl⟩
        · refine mv_lload_n d_Grouping_idleOf_18 rfl rfl ?_
          refine mv_lconst (v := 0) d_Grouping_idleOf_19 (by decide) ?_
          refine mv_aload_n d_Grouping_idleOf_20 rfl rfl ?_
          obtain ⟨a5, q4, t_a5⟩ := tm_atR I_1 h_q0_1 (k := 11) rfl
          refine tr_getK q4 d_Grouping_idleOf_21 f_Grouping_34_7 ?_
          refine mv_iload d_Grouping_idleOf_24 rfl ?_
          refine tr_lald I_1 t_a5 (by decide) d_Grouping_idleOf_26 (vp_in_iff.mpr (by omega)) (fun v6 => ?_)
          refine mv_mmax_long (v := (if v6 < 0 then 0 else v6)) d_Grouping_idleOf_27 (mj_in1 (List.mem_of_getElem? (i := 1243) (by decide +kernel)) rfl) (Nat.le_of_ble_eq_true rfl) rfl ?_
          refine mv_ladd d_Grouping_idleOf_30 ?_
          refine mv_lstore_n (lv' := [(2, .long (l2_1 + (if v6 < 0 then 0 else v6))), (4, .int i4_1), (0, .ref o0), (1, .int x1)]) d_Grouping_idleOf_31 rfl (by decide) rfl ?_
          refine mv_iinc (v := (i4_1 + 1)) (lv' := [(4, .int (i4_1 + 1)), (2, .long (l2_1 + (if v6 < 0 then 0 else v6))), (0, .ref o0), (1, .int x1)]) d_Grouping_idleOf_32 rfl rfl (by decide) rfl ?_
          refine mv_goto (tgt := 5) d_Grouping_idleOf_35 (by decide) ?_
          have b7 : (i4_1 + 1).toInt = i4_1.toInt + 1 := mz_addn 1 1 (by decide) (by have := mz_lo i4_1; omega) (by have := mz_hi i4_1; omega)
          exact (ih1 (i4_1 + 1) (l2_1 + (if v6 < 0 then 0 else v6)) T_1 M_1 n_1 I_1 h_q0_1 (by first | omega | decide) (by omega))
  exact mv_less (Nat.zero_le _) (Nat.zero_le _) (L5_1 4294967296 0 0 T0 M0 n0 I0 h_o0 (by first | omega | decide) (by show (2147483647 - (0 : Int) : Int) < _; decide))
theorem lV_Grouping_64 : mj_lV "TrustDesk$Grouping" 64 kY_Grouping_idleOf 1 := ⟨⟨(mj_in1 (List.mem_of_getElem? (i := 1248) (by decide +kernel)) rfl), (mj_in1 (List.mem_of_getElem? (i := 5) (by decide +kernel)) rfl), (mj_in1 (List.mem_of_getElem? (i := 1251) (by decide +kernel)) rfl), by decide, rfl, by decide⟩, (mj_in1 (List.mem_of_getElem? (i := 1250) (by decide +kernel)) rfl), (mj_in (List.mem_append_left _ (List.mem_of_getElem? (i := 71) (by decide +kernel))) rfl)⟩
theorem d_Grouping_spread_20 : decode kY_Grouping_spread.2.1 20 = .ok (.aload_n 0, 1) := by decide +kernel
theorem d_Grouping_spread_21 : decode kY_Grouping_spread.2.1 21 = .ok (.getfield 37, 3) := by decide +kernel
theorem d_Grouping_spread_24 : decode kY_Grouping_spread.2.1 24 = .ok (.iload_n 1, 1) := by decide +kernel
theorem d_Grouping_spread_25 : decode kY_Grouping_spread.2.1 25 = .ok (.laload, 1) := by decide +kernel
theorem d_Grouping_spread_26 : decode kY_Grouping_spread.2.1 26 = .ok (.lsub, 1) := by decide +kernel
theorem d_Grouping_spread_27 : decode kY_Grouping_spread.2.1 27 = .ok (.invokestatic 68, 3) := by decide +kernel
theorem d_Grouping_spread_30 : decode kY_Grouping_spread.2.1 30 = .ok (.lstore_n 3, 1) := by decide +kernel
theorem d_Grouping_spread_31 : decode kY_Grouping_spread.2.1 31 = .ok (.aload_n 0, 1) := by decide +kernel
theorem d_Grouping_spread_32 : decode kY_Grouping_spread.2.1 32 = .ok (.getfield 47, 3) := by decide +kernel
theorem f_Grouping_47_7 : mj_fl "TrustDesk$Grouping" 47 7 3 := ⟨kR_Grouping, kF_Grouping, 14, "TrustDesk$Grouping", rfl, kg_7, by decide, (mj_in1 (List.mem_of_getElem? (i := 165) (by decide +kernel)) rfl), Or.inl rfl⟩
theorem d_Grouping_spread_35 : decode kY_Grouping_spread.2.1 35 = .ok (.ifCond .eq 30, 3) := by decide +kernel
theorem d_Grouping_spread_65 : decode kY_Grouping_spread.2.1 65 = .ok (.iload_n 1, 1) := by decide +kernel
theorem d_Grouping_spread_66 : decode kY_Grouping_spread.2.1 66 = .ok (.aload_n 0, 1) := by decide +kernel
theorem d_Grouping_spread_67 : decode kY_Grouping_spread.2.1 67 = .ok (.getfield 44, 3) := by decide +kernel
theorem d_Grouping_spread_70 : decode kY_Grouping_spread.2.1 70 = .ok (.if_icmp .ge 9, 3) := by decide +kernel
theorem d_Grouping_spread_79 : decode kY_Grouping_spread.2.1 79 = .ok (.aload_n 0, 1) := by decide +kernel
theorem d_Grouping_spread_80 : decode kY_Grouping_spread.2.1 80 = .ok (.lload_n 3, 1) := by decide +kernel
theorem d_Grouping_spread_81 : decode kY_Grouping_spread.2.1 81 = .ok (.iload_n 2, 1) := by decide +kernel
theorem d_Grouping_spread_82 : decode kY_Grouping_spread.2.1 82 = .ok (.invokevirtual 80, 3) := by decide +kernel
abbrev kY_Grouping_keepAsBest : mj_Y := (⟨"TrustDesk$Grouping", "keepAsBest", "(JI)V"⟩, prog_8_method_8_code, 5, (Option.none : Option Jvm.ClassFile.FieldType))
theorem d_Grouping_keepAsBest_0 : decode kY_Grouping_keepAsBest.2.1 0 = .ok (.aload_n 0, 1) := by decide +kernel
theorem d_Grouping_keepAsBest_1 : decode kY_Grouping_keepAsBest.2.1 1 = .ok (.lload_n 1, 1) := by decide +kernel
theorem d_Grouping_keepAsBest_2 : decode kY_Grouping_keepAsBest.2.1 2 = .ok (.putfield 50, 3) := by decide +kernel
theorem d_Grouping_keepAsBest_5 : decode kY_Grouping_keepAsBest.2.1 5 = .ok (.aload_n 0, 1) := by decide +kernel
theorem d_Grouping_keepAsBest_6 : decode kY_Grouping_keepAsBest.2.1 6 = .ok (.iload_n 3, 1) := by decide +kernel
theorem d_Grouping_keepAsBest_7 : decode kY_Grouping_keepAsBest.2.1 7 = .ok (.putfield 47, 3) := by decide +kernel
theorem d_Grouping_keepAsBest_10 : decode kY_Grouping_keepAsBest.2.1 10 = .ok (.iconst 0, 1) := by decide +kernel
theorem d_Grouping_keepAsBest_11 : decode kY_Grouping_keepAsBest.2.1 11 = .ok (.istore 4, 2) := by decide +kernel
theorem d_Grouping_keepAsBest_13 : decode kY_Grouping_keepAsBest.2.1 13 = .ok (.iload 4, 2) := by decide +kernel
theorem d_Grouping_keepAsBest_15 : decode kY_Grouping_keepAsBest.2.1 15 = .ok (.aload_n 0, 1) := by decide +kernel
theorem d_Grouping_keepAsBest_16 : decode kY_Grouping_keepAsBest.2.1 16 = .ok (.getfield 44, 3) := by decide +kernel
theorem d_Grouping_keepAsBest_19 : decode kY_Grouping_keepAsBest.2.1 19 = .ok (.if_icmp .ge 30, 3) := by decide +kernel
theorem d_Grouping_keepAsBest_49 : decode kY_Grouping_keepAsBest.2.1 49 = .ok (.return_, 1) := by decide +kernel
theorem d_Grouping_keepAsBest_22 : decode kY_Grouping_keepAsBest.2.1 22 = .ok (.iload 4, 2) := by decide +kernel
theorem d_Grouping_keepAsBest_24 : decode kY_Grouping_keepAsBest.2.1 24 = .ok (.bipush 8, 2) := by decide +kernel
theorem d_Grouping_keepAsBest_26 : decode kY_Grouping_keepAsBest.2.1 26 = .ok (.if_icmp .ge 23, 3) := by decide +kernel
theorem d_Grouping_keepAsBest_29 : decode kY_Grouping_keepAsBest.2.1 29 = .ok (.aload_n 0, 1) := by decide +kernel
theorem d_Grouping_keepAsBest_30 : decode kY_Grouping_keepAsBest.2.1 30 = .ok (.getfield 25, 3) := by decide +kernel
theorem f_Grouping_25_7 : mj_fl "TrustDesk$Grouping" 25 7 8 := ⟨kR_Grouping, kF_Grouping, 14, "TrustDesk$Grouping", rfl, kg_7, by decide, (mj_in1 (List.mem_of_getElem? (i := 170) (by decide +kernel)) rfl), Or.inl rfl⟩
theorem d_Grouping_keepAsBest_33 : decode kY_Grouping_keepAsBest.2.1 33 = .ok (.iload 4, 2) := by decide +kernel
theorem d_Grouping_keepAsBest_35 : decode kY_Grouping_keepAsBest.2.1 35 = .ok (.aload_n 0, 1) := by decide +kernel
theorem d_Grouping_keepAsBest_36 : decode kY_Grouping_keepAsBest.2.1 36 = .ok (.getfield 22, 3) := by decide +kernel
theorem f_Grouping_22_7 : mj_fl "TrustDesk$Grouping" 22 7 7 := ⟨kR_Grouping, kF_Grouping, 14, "TrustDesk$Grouping", rfl, kg_7, by decide, (mj_in1 (List.mem_of_getElem? (i := 169) (by decide +kernel)) rfl), Or.inl rfl⟩
theorem d_Grouping_keepAsBest_39 : decode kY_Grouping_keepAsBest.2.1 39 = .ok (.iload 4, 2) := by decide +kernel
theorem d_Grouping_keepAsBest_41 : decode kY_Grouping_keepAsBest.2.1 41 = .ok (.iaload, 1) := by decide +kernel
theorem d_Grouping_keepAsBest_42 : decode kY_Grouping_keepAsBest.2.1 42 = .ok (.iastore, 1) := by decide +kernel
theorem d_Grouping_keepAsBest_43 : decode kY_Grouping_keepAsBest.2.1 43 = .ok (.iinc 4 1, 3) := by decide +kernel
theorem d_Grouping_keepAsBest_46 : decode kY_Grouping_keepAsBest.2.1 46 = .ok (.goto (-33), 3) := by decide +kernel
def w_Grouping_keepAsBest : List Nat := [700, 703, 758]
theorem tc_Grouping_keepAsBest {g : mj_G} {l : Launch} {d : Nat} {T0 : tm_H} {M0 : mj_M} {n0 x9 : Nat} {o0 : Nat} {x1 : Int64} {x2 : Int32} (h_o0 : T0 o0 = some (0, 7, 0)) (I0 : tm_I tm_FT (tm_in w_Grouping_keepAsBest) x9 T0 M0 n0 T0 M0 n0) : mj_Met g l kY_Grouping_keepAsBest d [.ref o0, .long x1, .int x2] M0 n0 0 0 (tm_Q tm_FT (tm_in w_Grouping_keepAsBest) x9 T0 M0 n0 (fun r _ _ => r = none)) := by
  refine mj_enter (by decide) (Nat.le_of_ble_eq_true rfl) ?_
  refine mv_aload_n d_Grouping_keepAsBest_0 rfl rfl ?_
  refine mv_lload_n d_Grouping_keepAsBest_1 rfl rfl ?_
  refine tr_putK tm_okF I0 h_o0 (k := 0) rfl ⟨_, rfl⟩ (Or.inl (by decide)) d_Grouping_keepAsBest_2 p_Grouping_50_7 rfl rfl (fun M1 I2 q3 K4 => ?_)
  refine mv_aload_n d_Grouping_keepAsBest_5 rfl rfl ?_
  refine mv_iload_n d_Grouping_keepAsBest_6 rfl rfl ?_
  refine tr_putK tm_okF I2 h_o0 (k := 3) rfl ⟨_, rfl⟩ (Or.inl (by decide)) d_Grouping_keepAsBest_7 p_Grouping_47_7 rfl rfl (fun M5 I6 q7 K8 => ?_)
  refine mv_iconst (v := 0) d_Grouping_keepAsBest_10 (by decide) ?_
  refine mv_istore (lv' := [(4, .int 0), (0, .ref o0), (1, .long x1), (3, .int x2)]) d_Grouping_keepAsBest_11 (by decide) rfl ?_
  have L13_9 : ∀ (k : Nat) (i4_9 : Int32) (T_9 : tm_H) (M_9 : mj_M) (n_9 : Nat), tm_I tm_FT (tm_in w_Grouping_keepAsBest) x9 T0 M0 n0 T_9 M_9 n_9 → T_9 o0 = some (0, 7, 0) → 0 ≤ i4_9.toInt → 2147483647 - i4_9.toInt < (k : Int) → mj_V g l kY_Grouping_keepAsBest d 13 [(4, .int i4_9), (0, .ref o0), (1, .long x1), (3, .int x2)] [] M_9 n_9 0 0 (tm_Q tm_FT (tm_in w_Grouping_keepAsBest) x9 T0 M0 n0 (fun r _ _ => r = none)) := by
    intro k9
    induction k9 with
    | zero =>
      intro i4_9 T_9 M_9 n_9 I_9 h_q0_9 iv0_9 hk9
      have := mz_hi i4_9
      omega
    | succ k9 ih9 =>
      intro i4_9 T_9 M_9 n_9 I_9 h_q0_9 iv0_9 hk9
      refine mv_iload d_Grouping_keepAsBest_13 rfl ?_
      refine mv_aload_n d_Grouping_keepAsBest_15 rfl rfl ?_
      obtain ⟨v11, q10⟩ := tm_atI I_9 h_q0_9 (k := 2) rfl
      refine tr_getK q10 d_Grouping_keepAsBest_16 f_Grouping_44_7 ?_
      have := mz_hi i4_9
      have := mz_hi v11
      refine mv_icmp_geZ (tgt := 49) (a := i4_9.toInt) (b := v11.toInt) d_Grouping_keepAsBest_19 (by decide) rfl rfl (fun b12 => ?_) (fun b12 => ?_)
      · exact mv_vret d_Grouping_keepAsBest_49 rfl ⟨_, I_9, rfl⟩
      · refine mv_iload d_Grouping_keepAsBest_22 rfl ?_
        refine mv_bipush (v := 8) d_Grouping_keepAsBest_24 (by decide) ?_
        have := mz_hi i4_9
        refine mv_icmp_geZ (tgt := 49) (a := i4_9.toInt) (b := 8) d_Grouping_keepAsBest_26 (by decide) rfl (by decide) (fun b13 => ?_) (fun b13 => ?_)
        · exact mv_vret d_Grouping_keepAsBest_49 rfl ⟨_, I_9, rfl⟩
        · refine mv_aload_n d_Grouping_keepAsBest_29 rfl rfl ?_
          obtain ⟨a15, q14, t_a15⟩ := tm_atR I_9 h_q0_9 (k := 8) rfl
          refine tr_getK q14 d_Grouping_keepAsBest_30 f_Grouping_25_7 ?_
          refine mv_iload d_Grouping_keepAsBest_33 rfl ?_
          refine mv_aload_n d_Grouping_keepAsBest_35 rfl rfl ?_
          obtain ⟨a17, q16, t_a17⟩ := tm_atR I_9 h_q0_9 (k := 7) rfl
          refine tr_getK q16 d_Grouping_keepAsBest_36 f_Grouping_22_7 ?_
          refine mv_iload d_Grouping_keepAsBest_39 rfl ?_
          refine tr_iald I_9 t_a17 (by decide) d_Grouping_keepAsBest_41 (vp_in_iff.mpr (by omega)) (fun v18 => ?_)
          refine tr_iastK tm_okF I_9 t_a15 (by decide) (Or.inl (by decide)) d_Grouping_keepAsBest_42 (vp_in_iff.mpr (by omega)) (fun M19 I20 K21 => ?_)
          refine mv_iinc (v := (i4_9 + 1)) (lv' := [(4, .int (i4_9 + 1)), (0, .ref o0), (1, .long x1), (3, .int x2)]) d_Grouping_keepAsBest_43 rfl rfl (by decide) rfl ?_
          refine mv_goto (tgt := 13) d_Grouping_keepAsBest_46 (by decide) ?_
          have b22 : (i4_9 + 1).toInt = i4_9.toInt + 1 := mz_addn 1 1 (by decide) (by have := mz_lo i4_9; omega) (by have := mz_hi i4_9; omega)
          exact (ih9 (i4_9 + 1) T_9 M19 n_9 I20 h_q0_9 (by first | omega | decide) (by omega))
  exact mv_less (Nat.zero_le _) (Nat.zero_le _) (L13_9 4294967296 0 T0 M5 n0 I6 h_o0 (by first | omega | decide) (by show (2147483647 - (0 : Int) : Int) < _; decide))
theorem lV_Grouping_80 : mj_lV "TrustDesk$Grouping" 80 kY_Grouping_keepAsBest 2 := ⟨⟨(mj_in1 (List.mem_of_getElem? (i := 1252) (by decide +kernel)) rfl), (mj_in1 (List.mem_of_getElem? (i := 5) (by decide +kernel)) rfl), (mj_in1 (List.mem_of_getElem? (i := 1255) (by decide +kernel)) rfl), by decide, rfl, by decide⟩, (mj_in1 (List.mem_of_getElem? (i := 1254) (by decide +kernel)) rfl), (mj_in (List.mem_append_left _ (List.mem_of_getElem? (i := 72) (by decide +kernel))) rfl)⟩
theorem d_Grouping_spread_85 : decode kY_Grouping_spread.2.1 85 = .ok (.return_, 1) := by decide +kernel
theorem d_Grouping_spread_73 : decode kY_Grouping_spread.2.1 73 = .ok (.iload_n 1, 1) := by decide +kernel
theorem d_Grouping_spread_74 : decode kY_Grouping_spread.2.1 74 = .ok (.bipush 8, 2) := by decide +kernel
theorem d_Grouping_spread_76 : decode kY_Grouping_spread.2.1 76 = .ok (.if_icmp .ne 10, 3) := by decide +kernel
theorem d_Grouping_spread_86 : decode kY_Grouping_spread.2.1 86 = .ok (.iconst 0, 1) := by decide +kernel
theorem d_Grouping_spread_87 : decode kY_Grouping_spread.2.1 87 = .ok (.istore 5, 2) := by decide +kernel
theorem d_Grouping_spread_89 : decode kY_Grouping_spread.2.1 89 = .ok (.iload 5, 2) := by decide +kernel
theorem d_Grouping_spread_91 : decode kY_Grouping_spread.2.1 91 = .ok (.iload_n 2, 1) := by decide +kernel
theorem d_Grouping_spread_92 : decode kY_Grouping_spread.2.1 92 = .ok (.if_icmp .gt 105, 3) := by decide +kernel
theorem d_Grouping_spread_197 : decode kY_Grouping_spread.2.1 197 = .ok (.return_, 1) := by decide +kernel
theorem d_Grouping_spread_95 : decode kY_Grouping_spread.2.1 95 = .ok (.iload 5, 2) := by decide +kernel
theorem d_Grouping_spread_97 : decode kY_Grouping_spread.2.1 97 = .ok (.bipush 8, 2) := by decide +kernel
theorem d_Grouping_spread_99 : decode kY_Grouping_spread.2.1 99 = .ok (.if_icmp .ge 98, 3) := by decide +kernel
theorem d_Grouping_spread_102 : decode kY_Grouping_spread.2.1 102 = .ok (.aload_n 0, 1) := by decide +kernel
theorem d_Grouping_spread_103 : decode kY_Grouping_spread.2.1 103 = .ok (.getfield 31, 3) := by decide +kernel
theorem d_Grouping_spread_106 : decode kY_Grouping_spread.2.1 106 = .ok (.iload 5, 2) := by decide +kernel
theorem d_Grouping_spread_108 : decode kY_Grouping_spread.2.1 108 = .ok (.iaload, 1) := by decide +kernel
theorem d_Grouping_spread_109 : decode kY_Grouping_spread.2.1 109 = .ok (.istore 6, 2) := by decide +kernel
theorem d_Grouping_spread_111 : decode kY_Grouping_spread.2.1 111 = .ok (.aload_n 0, 1) := by decide +kernel
theorem d_Grouping_spread_112 : decode kY_Grouping_spread.2.1 112 = .ok (.iload_n 1, 1) := by decide +kernel
theorem d_Grouping_spread_113 : decode kY_Grouping_spread.2.1 113 = .ok (.iload 5, 2) := by decide +kernel
theorem d_Grouping_spread_115 : decode kY_Grouping_spread.2.1 115 = .ok (.invokevirtual 56, 3) := by decide +kernel
abbrev kY_Grouping_put : mj_Y := (⟨"TrustDesk$Grouping", "put", "(II)V"⟩, prog_8_method_9_code, 3, (Option.none : Option Jvm.ClassFile.FieldType))
theorem d_Grouping_put_0 : decode kY_Grouping_put.2.1 0 = .ok (.iload_n 1, 1) := by decide +kernel
theorem d_Grouping_put_1 : decode kY_Grouping_put.2.1 1 = .ok (.ifCond .lt 19, 3) := by decide +kernel
theorem d_Grouping_put_20 : decode kY_Grouping_put.2.1 20 = .ok (.return_, 1) := by decide +kernel
theorem d_Grouping_put_4 : decode kY_Grouping_put.2.1 4 = .ok (.iload_n 1, 1) := by decide +kernel
theorem d_Grouping_put_5 : decode kY_Grouping_put.2.1 5 = .ok (.bipush 8, 2) := by decide +kernel
theorem d_Grouping_put_7 : decode kY_Grouping_put.2.1 7 = .ok (.if_icmp .ge 13, 3) := by decide +kernel
theorem d_Grouping_put_10 : decode kY_Grouping_put.2.1 10 = .ok (.iload_n 2, 1) := by decide +kernel
theorem d_Grouping_put_11 : decode kY_Grouping_put.2.1 11 = .ok (.ifCond .lt 9, 3) := by decide +kernel
theorem d_Grouping_put_14 : decode kY_Grouping_put.2.1 14 = .ok (.iload_n 2, 1) := by decide +kernel
theorem d_Grouping_put_15 : decode kY_Grouping_put.2.1 15 = .ok (.bipush 8, 2) := by decide +kernel
theorem d_Grouping_put_17 : decode kY_Grouping_put.2.1 17 = .ok (.if_icmp .lt 4, 3) := by decide +kernel
theorem d_Grouping_put_21 : decode kY_Grouping_put.2.1 21 = .ok (.aload_n 0, 1) := by decide +kernel
theorem d_Grouping_put_22 : decode kY_Grouping_put.2.1 22 = .ok (.getfield 28, 3) := by decide +kernel
theorem d_Grouping_put_25 : decode kY_Grouping_put.2.1 25 = .ok (.iload_n 2, 1) := by decide +kernel
theorem d_Grouping_put_26 : decode kY_Grouping_put.2.1 26 = .ok (.dup2, 1) := by decide +kernel
theorem d_Grouping_put_27 : decode kY_Grouping_put.2.1 27 = .ok (.iaload, 1) := by decide +kernel
theorem d_Grouping_put_28 : decode kY_Grouping_put.2.1 28 = .ok (.iconst 1, 1) := by decide +kernel
theorem d_Grouping_put_29 : decode kY_Grouping_put.2.1 29 = .ok (.iadd, 1) := by decide +kernel
theorem d_Grouping_put_30 : decode kY_Grouping_put.2.1 30 = .ok (.iastore, 1) := by decide +kernel
theorem d_Grouping_put_31 : decode kY_Grouping_put.2.1 31 = .ok (.aload_n 0, 1) := by decide +kernel
theorem d_Grouping_put_32 : decode kY_Grouping_put.2.1 32 = .ok (.getfield 34, 3) := by decide +kernel
theorem d_Grouping_put_35 : decode kY_Grouping_put.2.1 35 = .ok (.iload_n 2, 1) := by decide +kernel
theorem d_Grouping_put_36 : decode kY_Grouping_put.2.1 36 = .ok (.dup2, 1) := by decide +kernel
theorem d_Grouping_put_37 : decode kY_Grouping_put.2.1 37 = .ok (.laload, 1) := by decide +kernel
theorem d_Grouping_put_38 : decode kY_Grouping_put.2.1 38 = .ok (.aload_n 0, 1) := by decide +kernel
theorem d_Grouping_put_39 : decode kY_Grouping_put.2.1 39 = .ok (.getfield 15, 3) := by decide +kernel
theorem d_Grouping_put_42 : decode kY_Grouping_put.2.1 42 = .ok (.iload_n 1, 1) := by decide +kernel
theorem d_Grouping_put_43 : decode kY_Grouping_put.2.1 43 = .ok (.laload, 1) := by decide +kernel
theorem d_Grouping_put_44 : decode kY_Grouping_put.2.1 44 = .ok (.ladd, 1) := by decide +kernel
theorem d_Grouping_put_45 : decode kY_Grouping_put.2.1 45 = .ok (.lastore, 1) := by decide +kernel
theorem d_Grouping_put_46 : decode kY_Grouping_put.2.1 46 = .ok (.aload_n 0, 1) := by decide +kernel
theorem d_Grouping_put_47 : decode kY_Grouping_put.2.1 47 = .ok (.getfield 31, 3) := by decide +kernel
theorem d_Grouping_put_50 : decode kY_Grouping_put.2.1 50 = .ok (.iload_n 2, 1) := by decide +kernel
theorem d_Grouping_put_51 : decode kY_Grouping_put.2.1 51 = .ok (.dup2, 1) := by decide +kernel
theorem d_Grouping_put_52 : decode kY_Grouping_put.2.1 52 = .ok (.iaload, 1) := by decide +kernel
theorem d_Grouping_put_53 : decode kY_Grouping_put.2.1 53 = .ok (.aload_n 0, 1) := by decide +kernel
theorem d_Grouping_put_54 : decode kY_Grouping_put.2.1 54 = .ok (.getfield 9, 3) := by decide +kernel
theorem d_Grouping_put_57 : decode kY_Grouping_put.2.1 57 = .ok (.iload_n 1, 1) := by decide +kernel
theorem d_Grouping_put_58 : decode kY_Grouping_put.2.1 58 = .ok (.iaload, 1) := by decide +kernel
theorem d_Grouping_put_59 : decode kY_Grouping_put.2.1 59 = .ok (.iand, 1) := by decide +kernel
theorem d_Grouping_put_60 : decode kY_Grouping_put.2.1 60 = .ok (.iastore, 1) := by decide +kernel
theorem d_Grouping_put_61 : decode kY_Grouping_put.2.1 61 = .ok (.return_, 1) := by decide +kernel
def w_Grouping_put : List Nat := [759, 760, 761]
theorem tc_Grouping_put {g : mj_G} {l : Launch} {d : Nat} {T0 : tm_H} {M0 : mj_M} {n0 x9 : Nat} {o0 : Nat} {x1 : Int32} {x2 : Int32} (h_o0 : T0 o0 = some (0, 7, 0)) (I0 : tm_I tm_FT (tm_in w_Grouping_put) x9 T0 M0 n0 T0 M0 n0) : mj_Met g l kY_Grouping_put d [.ref o0, .int x1, .int x2] M0 n0 0 0 (tm_Q tm_FT (tm_in w_Grouping_put) x9 T0 M0 n0 (fun r _ _ => r = none)) := by
  refine mj_enter (by decide) (Nat.le_of_ble_eq_true rfl) ?_
  refine mv_iload_n d_Grouping_put_0 rfl rfl ?_
  have := mz_hi x1
  refine mv_if_ltZ (tgt := 20) (a := x1.toInt) d_Grouping_put_1 (by decide) rfl (fun b1 => ?_) (fun b1 => ?_)
  · exact mv_vret d_Grouping_put_20 rfl ⟨_, I0, rfl⟩
  · refine mv_iload_n d_Grouping_put_4 rfl rfl ?_
    refine mv_bipush (v := 8) d_Grouping_put_5 (by decide) ?_
    have := mz_hi x1
    refine mv_icmp_geZ (tgt := 20) (a := x1.toInt) (b := 8) d_Grouping_put_7 (by decide) rfl (by decide) (fun b2 => ?_) (fun b2 => ?_)
    · exact mv_vret d_Grouping_put_20 rfl ⟨_, I0, rfl⟩
    · refine mv_iload_n d_Grouping_put_10 rfl rfl ?_
      have := mz_hi x2
      refine mv_if_ltZ (tgt := 20) (a := x2.toInt) d_Grouping_put_11 (by decide) rfl (fun b3 => ?_) (fun b3 => ?_)
      · exact mv_vret d_Grouping_put_20 rfl ⟨_, I0, rfl⟩
      · refine mv_iload_n d_Grouping_put_14 rfl rfl ?_
        refine mv_bipush (v := 8) d_Grouping_put_15 (by decide) ?_
        have := mz_hi x2
        refine mv_icmp_ltZ (tgt := 21) (a := x2.toInt) (b := 8) d_Grouping_put_17 (by decide) rfl (by decide) (fun b4 => ?_) (fun b4 => ?_)
        · refine mv_aload_n d_Grouping_put_21 rfl rfl ?_
          obtain ⟨a6, q5, t_a6⟩ := tm_atR I0 h_o0 (k := 9) rfl
          refine tr_getK q5 d_Grouping_put_22 f_Grouping_28_7 ?_
          refine mv_iload_n d_Grouping_put_25 rfl rfl ?_
          refine mv_dup2_11 d_Grouping_put_26 rfl rfl ?_
          refine tr_iald I0 t_a6 (by decide) d_Grouping_put_27 (vp_in_iff.mpr (by omega)) (fun v7 => ?_)
          refine mv_iconst (v := 1) d_Grouping_put_28 (by decide) ?_
          refine mv_iadd d_Grouping_put_29 ?_
          refine tr_iastK tm_okF I0 t_a6 (by decide) (Or.inl (by decide)) d_Grouping_put_30 (vp_in_iff.mpr (by omega)) (fun M8 I9 K10 => ?_)
          refine mv_aload_n d_Grouping_put_31 rfl rfl ?_
          obtain ⟨a12, q11, t_a12⟩ := tm_atR I9 h_o0 (k := 11) rfl
          refine tr_getK q11 d_Grouping_put_32 f_Grouping_34_7 ?_
          refine mv_iload_n d_Grouping_put_35 rfl rfl ?_
          refine mv_dup2_11 d_Grouping_put_36 rfl rfl ?_
          refine tr_lald I9 t_a12 (by decide) d_Grouping_put_37 (vp_in_iff.mpr (by omega)) (fun v13 => ?_)
          refine mv_aload_n d_Grouping_put_38 rfl rfl ?_
          obtain ⟨a15, q14, t_a15⟩ := tm_atR I9 h_o0 (k := 5) rfl
          refine tr_getK q14 d_Grouping_put_39 f_Grouping_15_7 ?_
          refine mv_iload_n d_Grouping_put_42 rfl rfl ?_
          refine tr_lald I9 t_a15 (by decide) d_Grouping_put_43 (vp_in_iff.mpr (by omega)) (fun v16 => ?_)
          refine mv_ladd d_Grouping_put_44 ?_
          refine tr_lastK tm_okF I9 t_a12 (by decide) (Or.inl (by decide)) d_Grouping_put_45 (vp_in_iff.mpr (by omega)) (fun M17 I18 K19 => ?_)
          refine mv_aload_n d_Grouping_put_46 rfl rfl ?_
          obtain ⟨a21, q20, t_a21⟩ := tm_atR I18 h_o0 (k := 10) rfl
          refine tr_getK q20 d_Grouping_put_47 f_Grouping_31_7 ?_
          refine mv_iload_n d_Grouping_put_50 rfl rfl ?_
          refine mv_dup2_11 d_Grouping_put_51 rfl rfl ?_
          refine tr_iald I18 t_a21 (by decide) d_Grouping_put_52 (vp_in_iff.mpr (by omega)) (fun v22 => ?_)
          refine mv_aload_n d_Grouping_put_53 rfl rfl ?_
          obtain ⟨a24, q23, t_a24⟩ := tm_atR I18 h_o0 (k := 4) rfl
          refine tr_getK q23 d_Grouping_put_54 f_Grouping_9_7 ?_
          refine mv_iload_n d_Grouping_put_57 rfl rfl ?_
          refine tr_iald I18 t_a24 (by decide) d_Grouping_put_58 (vp_in_iff.mpr (by omega)) (fun v25 => ?_)
          refine mv_iand d_Grouping_put_59 ?_
          refine tr_iastK tm_okF I18 t_a21 (by decide) (Or.inl (by decide)) d_Grouping_put_60 (vp_in_iff.mpr (by omega)) (fun M26 I27 K28 => ?_)
          exact mv_vret d_Grouping_put_61 rfl ⟨_, I27, rfl⟩
        · exact mv_vret d_Grouping_put_20 rfl ⟨_, I0, rfl⟩
theorem lV_Grouping_56 : mj_lV "TrustDesk$Grouping" 56 kY_Grouping_put 2 := ⟨⟨(mj_in1 (List.mem_of_getElem? (i := 1256) (by decide +kernel)) rfl), (mj_in1 (List.mem_of_getElem? (i := 5) (by decide +kernel)) rfl), (mj_in1 (List.mem_of_getElem? (i := 1259) (by decide +kernel)) rfl), by decide, rfl, by decide⟩, (mj_in1 (List.mem_of_getElem? (i := 1258) (by decide +kernel)) rfl), (mj_in (List.mem_append_left _ (List.mem_of_getElem? (i := 73) (by decide +kernel))) rfl)⟩
theorem d_Grouping_spread_118 : decode kY_Grouping_spread.2.1 118 = .ok (.aload_n 0, 1) := by decide +kernel
theorem d_Grouping_spread_119 : decode kY_Grouping_spread.2.1 119 = .ok (.iload 5, 2) := by decide +kernel
theorem d_Grouping_spread_121 : decode kY_Grouping_spread.2.1 121 = .ok (.invokevirtual 60, 3) := by decide +kernel
abbrev kY_Grouping_holdsTogether : mj_Y := (⟨"TrustDesk$Grouping", "holdsTogether", "(I)Z"⟩, prog_8_method_10_code, 2, (Option.some Jvm.ClassFile.FieldType.boolean))
theorem d_Grouping_holdsTogether_0 : decode kY_Grouping_holdsTogether.2.1 0 = .ok (.iload_n 1, 1) := by decide +kernel
theorem d_Grouping_holdsTogether_1 : decode kY_Grouping_holdsTogether.2.1 1 = .ok (.ifCond .lt 39, 3) := by decide +kernel
theorem d_Grouping_holdsTogether_40 : decode kY_Grouping_holdsTogether.2.1 40 = .ok (.iconst 0, 1) := by decide +kernel
theorem d_Grouping_holdsTogether_41 : decode kY_Grouping_holdsTogether.2.1 41 = .ok (.ireturn, 1) := by decide +kernel
theorem d_Grouping_holdsTogether_4 : decode kY_Grouping_holdsTogether.2.1 4 = .ok (.iload_n 1, 1) := by decide +kernel
theorem d_Grouping_holdsTogether_5 : decode kY_Grouping_holdsTogether.2.1 5 = .ok (.bipush 8, 2) := by decide +kernel
theorem d_Grouping_holdsTogether_7 : decode kY_Grouping_holdsTogether.2.1 7 = .ok (.if_icmp .ge 33, 3) := by decide +kernel
theorem d_Grouping_holdsTogether_10 : decode kY_Grouping_holdsTogether.2.1 10 = .ok (.aload_n 0, 1) := by decide +kernel
theorem d_Grouping_holdsTogether_11 : decode kY_Grouping_holdsTogether.2.1 11 = .ok (.getfield 28, 3) := by decide +kernel
theorem d_Grouping_holdsTogether_14 : decode kY_Grouping_holdsTogether.2.1 14 = .ok (.iload_n 1, 1) := by decide +kernel
theorem d_Grouping_holdsTogether_15 : decode kY_Grouping_holdsTogether.2.1 15 = .ok (.iaload, 1) := by decide +kernel
theorem d_Grouping_holdsTogether_16 : decode kY_Grouping_holdsTogether.2.1 16 = .ok (.iconst 1, 1) := by decide +kernel
theorem d_Grouping_holdsTogether_17 : decode kY_Grouping_holdsTogether.2.1 17 = .ok (.if_icmp .le 19, 3) := by decide +kernel
theorem d_Grouping_holdsTogether_36 : decode kY_Grouping_holdsTogether.2.1 36 = .ok (.iconst 1, 1) := by decide +kernel
theorem d_Grouping_holdsTogether_37 : decode kY_Grouping_holdsTogether.2.1 37 = .ok (.goto 4, 3) := by decide +kernel
theorem d_Grouping_holdsTogether_20 : decode kY_Grouping_holdsTogether.2.1 20 = .ok (.aload_n 0, 1) := by decide +kernel
theorem d_Grouping_holdsTogether_21 : decode kY_Grouping_holdsTogether.2.1 21 = .ok (.getfield 31, 3) := by decide +kernel
theorem d_Grouping_holdsTogether_24 : decode kY_Grouping_holdsTogether.2.1 24 = .ok (.iload_n 1, 1) := by decide +kernel
theorem d_Grouping_holdsTogether_25 : decode kY_Grouping_holdsTogether.2.1 25 = .ok (.iaload, 1) := by decide +kernel
theorem d_Grouping_holdsTogether_26 : decode kY_Grouping_holdsTogether.2.1 26 = .ok (.invokestatic 84, 3) := by decide +kernel
theorem lS_Grouping_84 : mj_lS "TrustDesk$Grouping" 84 kY_Integer_bitCount 1 := ⟨⟨(mj_in1 (List.mem_of_getElem? (i := 1264) (by decide +kernel)) rfl), (mj_in1 (List.mem_of_getElem? (i := 26) (by decide +kernel)) rfl), (mj_in1 (List.mem_of_getElem? (i := 1091) (by decide +kernel)) rfl), by decide, rfl, by decide⟩, (mj_in1 (List.mem_of_getElem? (i := 1090) (by decide +kernel)) rfl)⟩
theorem d_Grouping_holdsTogether_29 : decode kY_Grouping_holdsTogether.2.1 29 = .ok (.aload_n 0, 1) := by decide +kernel
theorem d_Grouping_holdsTogether_30 : decode kY_Grouping_holdsTogether.2.1 30 = .ok (.getfield 40, 3) := by decide +kernel
theorem f_Grouping_40_7 : mj_fl "TrustDesk$Grouping" 40 7 1 := ⟨kR_Grouping, kF_Grouping, 14, "TrustDesk$Grouping", rfl, kg_7, by decide, (mj_in1 (List.mem_of_getElem? (i := 163) (by decide +kernel)) rfl), Or.inl rfl⟩
theorem d_Grouping_holdsTogether_33 : decode kY_Grouping_holdsTogether.2.1 33 = .ok (.if_icmp .lt 7, 3) := by decide +kernel
def w_Grouping_holdsTogether : List Nat := []
theorem tc_Grouping_holdsTogether {g : mj_G} {l : Launch} {d : Nat} {T0 : tm_H} {M0 : mj_M} {n0 x9 : Nat} {o0 : Nat} {x1 : Int32} (h_o0 : T0 o0 = some (0, 7, 0)) (I0 : tm_I tm_FT (tm_in w_Grouping_holdsTogether) x9 T0 M0 n0 T0 M0 n0) : mj_Met g l kY_Grouping_holdsTogether (d + 1) [.ref o0, .int x1] M0 n0 0 0 (tm_Q tm_FT (tm_in w_Grouping_holdsTogether) x9 T0 M0 n0 (fun r _ _ => ∃ v : Int32, r = some (.int v) ∧ 0 ≤ v.toInt ∧ v.toInt ≤ 1)) := by
  refine mj_enter (by decide) (Nat.le_of_ble_eq_true rfl) ?_
  refine mv_iload_n d_Grouping_holdsTogether_0 rfl rfl ?_
  have := mz_hi x1
  refine mv_if_ltZ (tgt := 40) (a := x1.toInt) d_Grouping_holdsTogether_1 (by decide) rfl (fun b1 => ?_) (fun b1 => ?_)
  · refine mv_iconst (v := 0) d_Grouping_holdsTogether_40 (by decide) ?_
    exact mv_iret d_Grouping_holdsTogether_41 rfl (by decide) ⟨_, I0, _, rfl, by decide, by decide⟩
  · refine mv_iload_n d_Grouping_holdsTogether_4 rfl rfl ?_
    refine mv_bipush (v := 8) d_Grouping_holdsTogether_5 (by decide) ?_
    have := mz_hi x1
    refine mv_icmp_geZ (tgt := 40) (a := x1.toInt) (b := 8) d_Grouping_holdsTogether_7 (by decide) rfl (by decide) (fun b2 => ?_) (fun b2 => ?_)
    · refine mv_iconst (v := 0) d_Grouping_holdsTogether_40 (by decide) ?_
      exact mv_iret d_Grouping_holdsTogether_41 rfl (by decide) ⟨_, I0, _, rfl, by decide, by decide⟩
    · refine mv_aload_n d_Grouping_holdsTogether_10 rfl rfl ?_
      obtain ⟨a4, q3, t_a4⟩ := tm_atR I0 h_o0 (k := 9) rfl
      refine tr_getK q3 d_Grouping_holdsTogether_11 f_Grouping_28_7 ?_
      refine mv_iload_n d_Grouping_holdsTogether_14 rfl rfl ?_
      refine tr_iald I0 t_a4 (by decide) d_Grouping_holdsTogether_15 (vp_in_iff.mpr (by omega)) (fun v5 => ?_)
      refine mv_iconst (v := 1) d_Grouping_holdsTogether_16 (by decide) ?_
      have := mz_hi v5
      refine mv_icmp_leZ (tgt := 36) (a := v5.toInt) (b := 1) d_Grouping_holdsTogether_17 (by decide) rfl (by decide) (fun b6 => ?_) (fun b6 => ?_)
      · refine mv_iconst (v := 1) d_Grouping_holdsTogether_36 (by decide) ?_
        refine mv_goto (tgt := 41) d_Grouping_holdsTogether_37 (by decide) ?_
        exact mv_iret d_Grouping_holdsTogether_41 rfl (by decide) ⟨_, I0, _, rfl, by decide, by decide⟩
      · refine mv_aload_n d_Grouping_holdsTogether_20 rfl rfl ?_
        obtain ⟨a8, q7, t_a8⟩ := tm_atR I0 h_o0 (k := 10) rfl
        refine tr_getK q7 d_Grouping_holdsTogether_21 f_Grouping_31_7 ?_
        refine mv_iload_n d_Grouping_holdsTogether_24 rfl rfl ?_
        refine tr_iald I0 t_a8 (by decide) d_Grouping_holdsTogether_25 (vp_in_iff.mpr (by omega)) (fun v9 => ?_)
        refine mv_callS (kc' := 0) (ks' := 0) (As := [.int v9]) (st9 := [.int v9]) d_Grouping_holdsTogether_26 lS_Grouping_84 (tc_Integer_bitCount (d := d) (x9 := x9) (x1 := v9)  I0.start) rfl (Nat.le_of_ble_eq_true rfl) (Nat.le_of_ble_eq_true rfl) (Nat.le_of_ble_eq_true rfl) (hst := rfl) (fun b10r M11 n12 b10 => ?_)
        obtain ⟨T13, J14, v16, rfl⟩ := b10
        have I15 := I0.call J14 (tm_sub (by decide)) (Or.inl rfl)
        have t17 := J14.up h_o0
        have q18 := J14.keep h_o0 (by decide) q3
        have t19 := J14.up t_a4
        have q20 := J14.keep h_o0 (by decide) q7
        have t21 := J14.up t_a8
        refine mv_aload_n d_Grouping_holdsTogether_29 rfl rfl ?_
        obtain ⟨v23, q22⟩ := tm_atI I15 t17 (k := 1) rfl
        refine tr_getK q22 d_Grouping_holdsTogether_30 f_Grouping_40_7 ?_
        have := mz_hi v16
        have := mz_hi v23
        refine mv_icmp_ltZ (tgt := 40) (a := v16.toInt) (b := v23.toInt) d_Grouping_holdsTogether_33 (by decide) rfl rfl (fun b24 => ?_) (fun b24 => ?_)
        · refine mv_iconst (v := 0) d_Grouping_holdsTogether_40 (by decide) ?_
          exact mv_iret d_Grouping_holdsTogether_41 rfl (by decide) ⟨_, I15, _, rfl, by decide, by decide⟩
        · refine mv_iconst (v := 1) d_Grouping_holdsTogether_36 (by decide) ?_
          refine mv_goto (tgt := 41) d_Grouping_holdsTogether_37 (by decide) ?_
          exact mv_iret d_Grouping_holdsTogether_41 rfl (by decide) ⟨_, I15, _, rfl, by decide, by decide⟩
theorem lV_Grouping_60 : mj_lV "TrustDesk$Grouping" 60 kY_Grouping_holdsTogether 1 := ⟨⟨(mj_in1 (List.mem_of_getElem? (i := 1260) (by decide +kernel)) rfl), (mj_in1 (List.mem_of_getElem? (i := 5) (by decide +kernel)) rfl), (mj_in1 (List.mem_of_getElem? (i := 1263) (by decide +kernel)) rfl), by decide, rfl, by decide⟩, (mj_in1 (List.mem_of_getElem? (i := 1262) (by decide +kernel)) rfl), (mj_in (List.mem_append_left _ (List.mem_of_getElem? (i := 74) (by decide +kernel))) rfl)⟩
theorem d_Grouping_spread_124 : decode kY_Grouping_spread.2.1 124 = .ok (.ifCond .eq 31, 3) := by decide +kernel
theorem d_Grouping_spread_155 : decode kY_Grouping_spread.2.1 155 = .ok (.aload_n 0, 1) := by decide +kernel
theorem d_Grouping_spread_156 : decode kY_Grouping_spread.2.1 156 = .ok (.getfield 28, 3) := by decide +kernel
theorem d_Grouping_spread_159 : decode kY_Grouping_spread.2.1 159 = .ok (.iload 5, 2) := by decide +kernel
theorem d_Grouping_spread_161 : decode kY_Grouping_spread.2.1 161 = .ok (.dup2, 1) := by decide +kernel
theorem d_Grouping_spread_162 : decode kY_Grouping_spread.2.1 162 = .ok (.iaload, 1) := by decide +kernel
theorem d_Grouping_spread_163 : decode kY_Grouping_spread.2.1 163 = .ok (.iconst 1, 1) := by decide +kernel
theorem d_Grouping_spread_164 : decode kY_Grouping_spread.2.1 164 = .ok (.isub, 1) := by decide +kernel
theorem d_Grouping_spread_165 : decode kY_Grouping_spread.2.1 165 = .ok (.iastore, 1) := by decide +kernel
theorem d_Grouping_spread_166 : decode kY_Grouping_spread.2.1 166 = .ok (.aload_n 0, 1) := by decide +kernel
theorem d_Grouping_spread_167 : decode kY_Grouping_spread.2.1 167 = .ok (.getfield 34, 3) := by decide +kernel
theorem d_Grouping_spread_170 : decode kY_Grouping_spread.2.1 170 = .ok (.iload 5, 2) := by decide +kernel
theorem d_Grouping_spread_172 : decode kY_Grouping_spread.2.1 172 = .ok (.dup2, 1) := by decide +kernel
theorem d_Grouping_spread_173 : decode kY_Grouping_spread.2.1 173 = .ok (.laload, 1) := by decide +kernel
theorem d_Grouping_spread_174 : decode kY_Grouping_spread.2.1 174 = .ok (.aload_n 0, 1) := by decide +kernel
theorem d_Grouping_spread_175 : decode kY_Grouping_spread.2.1 175 = .ok (.getfield 15, 3) := by decide +kernel
theorem d_Grouping_spread_178 : decode kY_Grouping_spread.2.1 178 = .ok (.iload_n 1, 1) := by decide +kernel
theorem d_Grouping_spread_179 : decode kY_Grouping_spread.2.1 179 = .ok (.laload, 1) := by decide +kernel
theorem d_Grouping_spread_180 : decode kY_Grouping_spread.2.1 180 = .ok (.lsub, 1) := by decide +kernel
theorem d_Grouping_spread_181 : decode kY_Grouping_spread.2.1 181 = .ok (.lastore, 1) := by decide +kernel
theorem d_Grouping_spread_182 : decode kY_Grouping_spread.2.1 182 = .ok (.aload_n 0, 1) := by decide +kernel
theorem d_Grouping_spread_183 : decode kY_Grouping_spread.2.1 183 = .ok (.getfield 31, 3) := by decide +kernel
theorem d_Grouping_spread_186 : decode kY_Grouping_spread.2.1 186 = .ok (.iload 5, 2) := by decide +kernel
theorem d_Grouping_spread_188 : decode kY_Grouping_spread.2.1 188 = .ok (.iload 6, 2) := by decide +kernel
theorem d_Grouping_spread_190 : decode kY_Grouping_spread.2.1 190 = .ok (.iastore, 1) := by decide +kernel
theorem d_Grouping_spread_191 : decode kY_Grouping_spread.2.1 191 = .ok (.iinc 5 1, 3) := by decide +kernel
theorem d_Grouping_spread_194 : decode kY_Grouping_spread.2.1 194 = .ok (.goto (-105), 3) := by decide +kernel
theorem d_Grouping_spread_127 : decode kY_Grouping_spread.2.1 127 = .ok (.aload_n 0, 1) := by decide +kernel
theorem d_Grouping_spread_128 : decode kY_Grouping_spread.2.1 128 = .ok (.getfield 22, 3) := by decide +kernel
theorem d_Grouping_spread_131 : decode kY_Grouping_spread.2.1 131 = .ok (.iload_n 1, 1) := by decide +kernel
theorem d_Grouping_spread_132 : decode kY_Grouping_spread.2.1 132 = .ok (.iload 5, 2) := by decide +kernel
theorem d_Grouping_spread_134 : decode kY_Grouping_spread.2.1 134 = .ok (.iastore, 1) := by decide +kernel
theorem d_Grouping_spread_135 : decode kY_Grouping_spread.2.1 135 = .ok (.aload_n 0, 1) := by decide +kernel
theorem d_Grouping_spread_136 : decode kY_Grouping_spread.2.1 136 = .ok (.iload_n 1, 1) := by decide +kernel
theorem d_Grouping_spread_137 : decode kY_Grouping_spread.2.1 137 = .ok (.iconst 1, 1) := by decide +kernel
theorem d_Grouping_spread_138 : decode kY_Grouping_spread.2.1 138 = .ok (.iadd, 1) := by decide +kernel
theorem d_Grouping_spread_139 : decode kY_Grouping_spread.2.1 139 = .ok (.iload 5, 2) := by decide +kernel
theorem d_Grouping_spread_141 : decode kY_Grouping_spread.2.1 141 = .ok (.iload_n 2, 1) := by decide +kernel
theorem d_Grouping_spread_142 : decode kY_Grouping_spread.2.1 142 = .ok (.if_icmp .ne 9, 3) := by decide +kernel
theorem d_Grouping_spread_151 : decode kY_Grouping_spread.2.1 151 = .ok (.iload_n 2, 1) := by decide +kernel
theorem d_Grouping_spread_152 : decode kY_Grouping_spread.2.1 152 = .ok (.invokevirtual 77, 3) := by decide +kernel
def w_Grouping_spread_q0 : List Nat := []
theorem tc_Grouping_spread_q0 {g : mj_G} {l : Launch} {d : Nat} {T0 : tm_H} {M0 : mj_M} {n0 x9 : Nat} {o0 : Nat} {x1 : Int32} {x2 : Int32} (h_o0 : T0 o0 = some (0, 7, 0)) (hp : 9 ≤ x1.toInt) (I0 : tm_I tm_FT (tm_in w_Grouping_spread_q0) x9 T0 M0 n0 T0 M0 n0) : mj_Met g l kY_Grouping_spread d [.ref o0, .int x1, .int x2] M0 n0 0 0 (tm_Q tm_FT (tm_in w_Grouping_spread_q0) x9 T0 M0 n0 (fun r _ _ => r = none)) := by
  refine mj_enter (by decide) (Nat.le_of_ble_eq_true rfl) ?_
  refine mv_iload_n d_Grouping_spread_0 rfl rfl ?_
  have := mz_hi x1
  refine mv_if_ltZ (tgt := 10) (a := x1.toInt) d_Grouping_spread_1 (by decide) rfl (fun b1 => ?_) (fun b1 => ?_)
  · exact mv_vret d_Grouping_spread_10 rfl ⟨_, I0, rfl⟩
  · refine mv_iload_n d_Grouping_spread_4 rfl rfl ?_
    refine mv_bipush (v := 8) d_Grouping_spread_5 (by decide) ?_
    have := mz_hi x1
    refine mv_icmp_leZ (tgt := 11) (a := x1.toInt) (b := 8) d_Grouping_spread_7 (by decide) rfl (by decide) (fun b2 => ?_) (fun b2 => ?_)
    · exfalso
      omega
    · exact mv_vret d_Grouping_spread_10 rfl ⟨_, I0, rfl⟩
theorem lV_Grouping_77 : mj_lV "TrustDesk$Grouping" 77 kY_Grouping_spread 2 := ⟨⟨(mj_in1 (List.mem_of_getElem? (i := 1244) (by decide +kernel)) rfl), (mj_in1 (List.mem_of_getElem? (i := 5) (by decide +kernel)) rfl), (mj_in1 (List.mem_of_getElem? (i := 1247) (by decide +kernel)) rfl), by decide, rfl, by decide⟩, (mj_in1 (List.mem_of_getElem? (i := 1246) (by decide +kernel)) rfl), (mj_in (List.mem_append_left _ (List.mem_of_getElem? (i := 70) (by decide +kernel))) rfl)⟩
theorem d_Grouping_spread_145 : decode kY_Grouping_spread.2.1 145 = .ok (.iload_n 2, 1) := by decide +kernel
theorem d_Grouping_spread_146 : decode kY_Grouping_spread.2.1 146 = .ok (.iconst 1, 1) := by decide +kernel
theorem d_Grouping_spread_147 : decode kY_Grouping_spread.2.1 147 = .ok (.iadd, 1) := by decide +kernel
theorem d_Grouping_spread_148 : decode kY_Grouping_spread.2.1 148 = .ok (.goto 4, 3) := by decide +kernel
theorem d_Grouping_spread_38 : decode kY_Grouping_spread.2.1 38 = .ok (.lload_n 3, 1) := by decide +kernel
theorem d_Grouping_spread_39 : decode kY_Grouping_spread.2.1 39 = .ok (.aload_n 0, 1) := by decide +kernel
theorem d_Grouping_spread_40 : decode kY_Grouping_spread.2.1 40 = .ok (.getfield 50, 3) := by decide +kernel
theorem f_Grouping_50_7 : mj_fl "TrustDesk$Grouping" 50 7 0 := ⟨kR_Grouping, kF_Grouping, 14, "TrustDesk$Grouping", rfl, kg_7, by decide, (mj_in1 (List.mem_of_getElem? (i := 161) (by decide +kernel)) rfl), Or.inl rfl⟩
theorem d_Grouping_spread_43 : decode kY_Grouping_spread.2.1 43 = .ok (.lcmp, 1) := by decide +kernel
theorem d_Grouping_spread_44 : decode kY_Grouping_spread.2.1 44 = .ok (.ifCond .gt 20, 3) := by decide +kernel
theorem d_Grouping_spread_64 : decode kY_Grouping_spread.2.1 64 = .ok (.return_, 1) := by decide +kernel
theorem d_Grouping_spread_47 : decode kY_Grouping_spread.2.1 47 = .ok (.lload_n 3, 1) := by decide +kernel
theorem d_Grouping_spread_48 : decode kY_Grouping_spread.2.1 48 = .ok (.aload_n 0, 1) := by decide +kernel
theorem d_Grouping_spread_49 : decode kY_Grouping_spread.2.1 49 = .ok (.getfield 50, 3) := by decide +kernel
theorem d_Grouping_spread_52 : decode kY_Grouping_spread.2.1 52 = .ok (.lcmp, 1) := by decide +kernel
theorem d_Grouping_spread_53 : decode kY_Grouping_spread.2.1 53 = .ok (.ifCond .ne 12, 3) := by decide +kernel
theorem d_Grouping_spread_56 : decode kY_Grouping_spread.2.1 56 = .ok (.iload_n 2, 1) := by decide +kernel
theorem d_Grouping_spread_57 : decode kY_Grouping_spread.2.1 57 = .ok (.aload_n 0, 1) := by decide +kernel
theorem d_Grouping_spread_58 : decode kY_Grouping_spread.2.1 58 = .ok (.getfield 47, 3) := by decide +kernel
theorem d_Grouping_spread_61 : decode kY_Grouping_spread.2.1 61 = .ok (.if_icmp .lt 4, 3) := by decide +kernel
def w_Grouping_spread_q1 : List Nat := [700, 703, 757, 758, 759, 760, 761]
theorem tc_Grouping_spread_q1 {g : mj_G} {l : Launch} {d : Nat} {T0 : tm_H} {M0 : mj_M} {n0 x9 : Nat} {o0 : Nat} {x1 : Int32} {x2 : Int32} (h_o0 : T0 o0 = some (0, 7, 0)) (hp : 8 ≤ x1.toInt) (I0 : tm_I tm_FT (tm_in w_Grouping_spread_q1) x9 T0 M0 n0 T0 M0 n0) : mj_Met g l kY_Grouping_spread (d + 2) [.ref o0, .int x1, .int x2] M0 n0 0 0 (tm_Q tm_FT (tm_in w_Grouping_spread_q1) x9 T0 M0 n0 (fun r _ _ => r = none)) := by
  refine mj_enter (by decide) (Nat.le_of_ble_eq_true rfl) ?_
  refine mv_iload_n d_Grouping_spread_0 rfl rfl ?_
  have := mz_hi x1
  refine mv_if_ltZ (tgt := 10) (a := x1.toInt) d_Grouping_spread_1 (by decide) rfl (fun b1 => ?_) (fun b1 => ?_)
  · exact mv_vret d_Grouping_spread_10 rfl ⟨_, I0, rfl⟩
  · refine mv_iload_n d_Grouping_spread_4 rfl rfl ?_
    refine mv_bipush (v := 8) d_Grouping_spread_5 (by decide) ?_
    have := mz_hi x1
    refine mv_icmp_leZ (tgt := 11) (a := x1.toInt) (b := 8) d_Grouping_spread_7 (by decide) rfl (by decide) (fun b2 => ?_) (fun b2 => ?_)
    · refine mv_aload_n d_Grouping_spread_11 rfl rfl ?_
      obtain ⟨v4, q3⟩ := tm_atL I0 h_o0 (k := 13) rfl
      refine tr_getK q3 d_Grouping_spread_12 f_Grouping_74_7 ?_
      refine mv_aload_n d_Grouping_spread_15 rfl rfl ?_
      refine mv_iload_n d_Grouping_spread_16 rfl rfl ?_
      obtain ⟨_, b11, -⟩ := I0.1 _ _ h_o0
      refine mv_callV (kc' := 0) (ks' := 0) (As := [.int x2]) (st9 := [.int x2, .ref o0, .long v4]) d_Grouping_spread_17 lV_Grouping_64 b11 rfl (tc_Grouping_idleOf (d := d) (x9 := x9) (o0 := o0) (x1 := x2) h_o0 I0.start) rfl (Nat.le_of_ble_eq_true rfl) (Nat.le_of_ble_eq_true rfl) (Nat.le_of_ble_eq_true rfl) (hst := rfl) (fun b5r M6 n7 b5 => ?_)
      obtain ⟨T8, J9, v12, rfl⟩ := b5
      have I10 := I0.call J9 (tm_sub (by decide)) (Or.inl rfl)
      have t13 := J9.up h_o0
      have q14 := J9.keep h_o0 (by decide) q3
      refine mv_aload_n d_Grouping_spread_20 rfl rfl ?_
      obtain ⟨a16, q15, t_a16⟩ := tm_atR I10 t13 (k := 12) rfl
      refine tr_getK q15 d_Grouping_spread_21 f_Grouping_37_7 ?_
      refine mv_iload_n d_Grouping_spread_24 rfl rfl ?_
      refine tr_lald I10 t_a16 (by decide) d_Grouping_spread_25 (vp_in_iff.mpr (by omega)) (fun v17 => ?_)
      refine mv_lsub d_Grouping_spread_26 ?_
      refine mv_mmax_long (v := (if (v12 - v17) < v4 then v4 else (v12 - v17))) d_Grouping_spread_27 (mj_in1 (List.mem_of_getElem? (i := 1243) (by decide +kernel)) rfl) (Nat.le_of_ble_eq_true rfl) rfl ?_
      refine mv_lstore_n (lv' := [(3, .long (if (v12 - v17) < v4 then v4 else (v12 - v17))), (0, .ref o0), (1, .int x1), (2, .int x2)]) d_Grouping_spread_30 rfl (by decide) rfl ?_
      refine mv_aload_n d_Grouping_spread_31 rfl rfl ?_
      obtain ⟨v19, q18⟩ := tm_atI I10 t13 (k := 3) rfl
      refine tr_getK q18 d_Grouping_spread_32 f_Grouping_47_7 ?_
      have := mz_hi v19
      refine mv_if_eqZ (tgt := 65) (a := v19.toInt) d_Grouping_spread_35 (by decide) rfl (fun b20 => ?_) (fun b20 => ?_)
      · refine mv_iload_n d_Grouping_spread_65 rfl rfl ?_
        refine mv_aload_n d_Grouping_spread_66 rfl rfl ?_
        obtain ⟨v22, q21⟩ := tm_atI I10 t13 (k := 2) rfl
        refine tr_getK q21 d_Grouping_spread_67 f_Grouping_44_7 ?_
        have := mz_hi x1
        have := mz_hi v22
        refine mv_icmp_geZ (tgt := 79) (a := x1.toInt) (b := v22.toInt) d_Grouping_spread_70 (by decide) rfl rfl (fun b23 => ?_) (fun b23 => ?_)
        · refine mv_aload_n d_Grouping_spread_79 rfl rfl ?_
          refine mv_lload_n d_Grouping_spread_80 rfl rfl ?_
          refine mv_iload_n d_Grouping_spread_81 rfl rfl ?_
          obtain ⟨_, b30, -⟩ := I10.1 _ _ t13
          refine mv_callV (kc' := 0) (ks' := 0) (As := [.long (if (v12 - v17) < v4 then v4 else (v12 - v17)), .int x2]) (st9 := [.int x2, .long (if (v12 - v17) < v4 then v4 else (v12 - v17)), .ref o0]) d_Grouping_spread_82 lV_Grouping_80 b30 rfl (tc_Grouping_keepAsBest (d := (d + 1)) (x9 := x9) (o0 := o0) (x1 := (if (v12 - v17) < v4 then v4 else (v12 - v17))) (x2 := x2) t13 I10.start) rfl (Nat.le_of_ble_eq_true rfl) (Nat.le_of_ble_eq_true rfl) (Nat.le_of_ble_eq_true rfl) (hst := rfl) (fun b24r M25 n26 b24 => ?_)
          obtain ⟨T27, J28, rfl⟩ := b24
          have I29 := I10.call J28 (tm_sub (by decide)) (Or.inl rfl)
          have t31 := J28.up t13
          have q32 := J28.keep t13 (by decide) q14
          have q33 := J28.keep t13 (by decide) q15
          have t34 := J28.up t_a16
          have q35 := J28.keep t13 (by decide) q21
          exact mv_vret d_Grouping_spread_85 rfl ⟨_, I29, rfl⟩
        · refine mv_iload_n d_Grouping_spread_73 rfl rfl ?_
          refine mv_bipush (v := 8) d_Grouping_spread_74 (by decide) ?_
          have := mz_hi x1
          refine mv_icmp_neZ (tgt := 86) (a := x1.toInt) (b := 8) d_Grouping_spread_76 (by decide) rfl (by decide) (fun b36 => ?_) (fun b36 => ?_)
          · refine mv_iconst (v := 0) d_Grouping_spread_86 (by decide) ?_
            refine mv_istore (lv' := [(5, .int 0), (3, .long (if (v12 - v17) < v4 then v4 else (v12 - v17))), (0, .ref o0), (1, .int x1), (2, .int x2)]) d_Grouping_spread_87 (by decide) rfl ?_
            have L89_37 : ∀ (k : Nat) (i5_37 : Int32) (T_37 : tm_H) (M_37 : mj_M) (n_37 : Nat), tm_I tm_FT (tm_in w_Grouping_spread_q1) x9 T0 M0 n0 T_37 M_37 n_37 → T_37 o0 = some (0, 7, 0) → 0 ≤ i5_37.toInt → 2147483647 - i5_37.toInt < (k : Int) → mj_V g l kY_Grouping_spread (d + 2) 89 [(5, .int i5_37), (3, .long (if (v12 - v17) < v4 then v4 else (v12 - v17))), (0, .ref o0), (1, .int x1), (2, .int x2)] [] M_37 n_37 0 0 (tm_Q tm_FT (tm_in w_Grouping_spread_q1) x9 T0 M0 n0 (fun r _ _ => r = none)) := by
              intro k37
              induction k37 with
              | zero =>
                intro i5_37 T_37 M_37 n_37 I_37 h_q0_37 iv0_37 hk37
                have := mz_hi i5_37
                omega
              | succ k37 ih37 =>
                intro i5_37 T_37 M_37 n_37 I_37 h_q0_37 iv0_37 hk37
                refine mv_iload d_Grouping_spread_89 rfl ?_
                refine mv_iload_n d_Grouping_spread_91 rfl rfl ?_
                have := mz_hi i5_37
                have := mz_hi x2
                refine mv_icmp_gtZ (tgt := 197) (a := i5_37.toInt) (b := x2.toInt) d_Grouping_spread_92 (by decide) rfl rfl (fun b38 => ?_) (fun b38 => ?_)
                · exact mv_vret d_Grouping_spread_197 rfl ⟨_, I_37, rfl⟩
                · refine mv_iload d_Grouping_spread_95 rfl ?_
                  refine mv_bipush (v := 8) d_Grouping_spread_97 (by decide) ?_
                  have := mz_hi i5_37
                  refine mv_icmp_geZ (tgt := 197) (a := i5_37.toInt) (b := 8) d_Grouping_spread_99 (by decide) rfl (by decide) (fun b39 => ?_) (fun b39 => ?_)
                  · exact mv_vret d_Grouping_spread_197 rfl ⟨_, I_37, rfl⟩
                  · refine mv_aload_n d_Grouping_spread_102 rfl rfl ?_
                    obtain ⟨a41, q40, t_a41⟩ := tm_atR I_37 h_q0_37 (k := 10) rfl
                    refine tr_getK q40 d_Grouping_spread_103 f_Grouping_31_7 ?_
                    refine mv_iload d_Grouping_spread_106 rfl ?_
                    refine tr_iald I_37 t_a41 (by decide) d_Grouping_spread_108 (vp_in_iff.mpr (by omega)) (fun v42 => ?_)
                    refine mv_istore (lv' := [(6, .int v42), (5, .int i5_37), (3, .long (if (v12 - v17) < v4 then v4 else (v12 - v17))), (0, .ref o0), (1, .int x1), (2, .int x2)]) d_Grouping_spread_109 (by decide) rfl ?_
                    refine mv_aload_n d_Grouping_spread_111 rfl rfl ?_
                    refine mv_iload_n d_Grouping_spread_112 rfl rfl ?_
                    refine mv_iload d_Grouping_spread_113 rfl ?_
                    obtain ⟨_, b49, -⟩ := I_37.1 _ _ h_q0_37
                    refine mv_callV (kc' := 0) (ks' := 0) (As := [.int x1, .int i5_37]) (st9 := [.int i5_37, .int x1, .ref o0]) d_Grouping_spread_115 lV_Grouping_56 b49 rfl (tc_Grouping_put (d := (d + 1)) (x9 := x9) (o0 := o0) (x1 := x1) (x2 := i5_37) h_q0_37 I_37.start) rfl (Nat.le_of_ble_eq_true rfl) (Nat.le_of_ble_eq_true rfl) (Nat.le_of_ble_eq_true rfl) (hst := rfl) (fun b43r M44 n45 b43 => ?_)
                    obtain ⟨T46, J47, rfl⟩ := b43
                    have I48 := I_37.call J47 (tm_sub (by decide)) (Or.inl rfl)
                    have t50 := J47.up h_q0_37
                    have q51 := J47.keep h_q0_37 (by decide) q40
                    have t52 := J47.up t_a41
                    refine mv_aload_n d_Grouping_spread_118 rfl rfl ?_
                    refine mv_iload d_Grouping_spread_119 rfl ?_
                    obtain ⟨_, b59, -⟩ := I48.1 _ _ t50
                    refine mv_callV (kc' := 0) (ks' := 0) (As := [.int i5_37]) (st9 := [.int i5_37, .ref o0]) d_Grouping_spread_121 lV_Grouping_60 b59 rfl (tc_Grouping_holdsTogether (d := d) (x9 := x9) (o0 := o0) (x1 := i5_37) t50 I48.start) rfl (Nat.le_of_ble_eq_true rfl) (Nat.le_of_ble_eq_true rfl) (Nat.le_of_ble_eq_true rfl) (hst := rfl) (fun b53r M54 n55 b53 => ?_)
                    obtain ⟨T56, J57, v60, rfl, b61, b62⟩ := b53
                    have I58 := I48.call J57 (tm_sub (by decide)) (Or.inl rfl)
                    have t63 := J57.up t50
                    have q64 := J57.keep t50 (by decide) q51
                    have t65 := J57.up t52
                    have := mz_hi v60
                    refine mv_if_eqZ (tgt := 155) (a := v60.toInt) d_Grouping_spread_124 (by decide) rfl (fun b66 => ?_) (fun b66 => ?_)
                    · refine mv_aload_n d_Grouping_spread_155 rfl rfl ?_
                      obtain ⟨a68, q67, t_a68⟩ := tm_atR I58 t63 (k := 9) rfl
                      refine tr_getK q67 d_Grouping_spread_156 f_Grouping_28_7 ?_
                      refine mv_iload d_Grouping_spread_159 rfl ?_
                      refine mv_dup2_11 d_Grouping_spread_161 rfl rfl ?_
                      refine tr_iald I58 t_a68 (by decide) d_Grouping_spread_162 (vp_in_iff.mpr (by omega)) (fun v69 => ?_)
                      refine mv_iconst (v := 1) d_Grouping_spread_163 (by decide) ?_
                      refine mv_isub d_Grouping_spread_164 ?_
                      refine tr_iastK tm_okF I58 t_a68 (by decide) (Or.inl (by decide)) d_Grouping_spread_165 (vp_in_iff.mpr (by omega)) (fun M70 I71 K72 => ?_)
                      refine mv_aload_n d_Grouping_spread_166 rfl rfl ?_
                      obtain ⟨a74, q73, t_a74⟩ := tm_atR I71 t63 (k := 11) rfl
                      refine tr_getK q73 d_Grouping_spread_167 f_Grouping_34_7 ?_
                      refine mv_iload d_Grouping_spread_170 rfl ?_
                      refine mv_dup2_11 d_Grouping_spread_172 rfl rfl ?_
                      refine tr_lald I71 t_a74 (by decide) d_Grouping_spread_173 (vp_in_iff.mpr (by omega)) (fun v75 => ?_)
                      refine mv_aload_n d_Grouping_spread_174 rfl rfl ?_
                      obtain ⟨a77, q76, t_a77⟩ := tm_atR I71 t63 (k := 5) rfl
                      refine tr_getK q76 d_Grouping_spread_175 f_Grouping_15_7 ?_
                      refine mv_iload_n d_Grouping_spread_178 rfl rfl ?_
                      refine tr_lald I71 t_a77 (by decide) d_Grouping_spread_179 (vp_in_iff.mpr (by omega)) (fun v78 => ?_)
                      refine mv_lsub d_Grouping_spread_180 ?_
                      refine tr_lastK tm_okF I71 t_a74 (by decide) (Or.inl (by decide)) d_Grouping_spread_181 (vp_in_iff.mpr (by omega)) (fun M79 I80 K81 => ?_)
                      refine mv_aload_n d_Grouping_spread_182 rfl rfl ?_
                      refine tr_getK (k := 10) (K81 _ 7 10 _ (K72 _ 7 10 _ q64)) d_Grouping_spread_183 f_Grouping_31_7 ?_
                      refine mv_iload d_Grouping_spread_186 rfl ?_
                      refine mv_iload d_Grouping_spread_188 rfl ?_
                      refine tr_iastK tm_okF I80 t65 (by decide) (Or.inl (by decide)) d_Grouping_spread_190 (vp_in_iff.mpr (by omega)) (fun M82 I83 K84 => ?_)
                      refine mv_iinc (v := (i5_37 + 1)) (lv' := [(5, .int (i5_37 + 1)), (6, .int v42), (3, .long (if (v12 - v17) < v4 then v4 else (v12 - v17))), (0, .ref o0), (1, .int x1), (2, .int x2)]) d_Grouping_spread_191 rfl rfl (by decide) rfl ?_
                      refine mv_goto (tgt := 89) d_Grouping_spread_194 (by decide) ?_
                      refine mv_locals (lv' := [(5, .int (i5_37 + 1)), (3, .long (if (v12 - v17) < v4 then v4 else (v12 - v17))), (0, .ref o0), (1, .int x1), (2, .int x2)]) (by intro q hq; simp only [List.mem_cons, List.not_mem_nil, or_false] at hq; rcases hq with rfl | rfl | rfl | rfl | rfl <;> rfl) ?_
                      have b85 : (i5_37 + 1).toInt = i5_37.toInt + 1 := mz_addn 1 1 (by decide) (by have := mz_lo i5_37; omega) (by have := mz_hi i5_37; omega)
                      exact (ih37 (i5_37 + 1) T56 M82 n55 I83 t63 (by first | omega | decide) (by omega))
                    · refine mv_aload_n d_Grouping_spread_127 rfl rfl ?_
                      obtain ⟨a87, q86, t_a87⟩ := tm_atR I58 t63 (k := 7) rfl
                      refine tr_getK q86 d_Grouping_spread_128 f_Grouping_22_7 ?_
                      refine mv_iload_n d_Grouping_spread_131 rfl rfl ?_
                      refine mv_iload d_Grouping_spread_132 rfl ?_
                      refine tr_iastK tm_okF I58 t_a87 (by decide) (Or.inl (by decide)) d_Grouping_spread_134 (vp_in_iff.mpr (by omega)) (fun M88 I89 K90 => ?_)
                      refine mv_aload_n d_Grouping_spread_135 rfl rfl ?_
                      refine mv_iload_n d_Grouping_spread_136 rfl rfl ?_
                      refine mv_iconst (v := 1) d_Grouping_spread_137 (by decide) ?_
                      refine mv_iadd d_Grouping_spread_138 ?_
                      refine mv_iload d_Grouping_spread_139 rfl ?_
                      refine mv_iload_n d_Grouping_spread_141 rfl rfl ?_
                      have := mz_hi i5_37
                      have := mz_hi x2
                      refine mv_icmp_neZ (tgt := 151) (a := i5_37.toInt) (b := x2.toInt) d_Grouping_spread_142 (by decide) rfl rfl (fun b91 => ?_) (fun b91 => ?_)
                      · refine mv_iload_n d_Grouping_spread_151 rfl rfl ?_
                        have b92 : (x1 + 1).toInt = x1.toInt + 1 := mz_addn 1 1 (by decide) (by omega) (by omega)
                        obtain ⟨_, b99, -⟩ := I89.1 _ _ t63
                        refine mv_callV (kc' := 0) (ks' := 0) (As := [.int (x1 + 1), .int x2]) (st9 := [.int x2, .int (x1 + 1), .ref o0]) d_Grouping_spread_152 lV_Grouping_77 b99 rfl (tc_Grouping_spread_q0 (d := (d + 1)) (x9 := x9) (o0 := o0) (x1 := (x1 + 1)) (x2 := x2) t63 (by first | omega | decide) I89.start) rfl (Nat.le_of_ble_eq_true rfl) (Nat.le_of_ble_eq_true rfl) (Nat.le_of_ble_eq_true rfl) (hst := rfl) (fun b93r M94 n95 b93 => ?_)
                        obtain ⟨T96, J97, rfl⟩ := b93
                        have I98 := I89.call J97 (tm_sub (by decide)) (Or.inl rfl)
                        have t100 := J97.up t63
                        have q101 := J97.keep t63 (by decide) (K90 _ 7 10 _ q64)
                        have t102 := J97.up t65
                        have q103 := J97.keep t63 (by decide) (K90 _ 7 7 _ q86)
                        have t104 := J97.up t_a87
                        refine mv_aload_n d_Grouping_spread_155 rfl rfl ?_
                        obtain ⟨a106, q105, t_a106⟩ := tm_atR I98 t100 (k := 9) rfl
                        refine tr_getK q105 d_Grouping_spread_156 f_Grouping_28_7 ?_
                        refine mv_iload d_Grouping_spread_159 rfl ?_
                        refine mv_dup2_11 d_Grouping_spread_161 rfl rfl ?_
                        refine tr_iald I98 t_a106 (by decide) d_Grouping_spread_162 (vp_in_iff.mpr (by omega)) (fun v107 => ?_)
                        refine mv_iconst (v := 1) d_Grouping_spread_163 (by decide) ?_
                        refine mv_isub d_Grouping_spread_164 ?_
                        refine tr_iastK tm_okF I98 t_a106 (by decide) (Or.inl (by decide)) d_Grouping_spread_165 (vp_in_iff.mpr (by omega)) (fun M108 I109 K110 => ?_)
                        refine mv_aload_n d_Grouping_spread_166 rfl rfl ?_
                        obtain ⟨a112, q111, t_a112⟩ := tm_atR I109 t100 (k := 11) rfl
                        refine tr_getK q111 d_Grouping_spread_167 f_Grouping_34_7 ?_
                        refine mv_iload d_Grouping_spread_170 rfl ?_
                        refine mv_dup2_11 d_Grouping_spread_172 rfl rfl ?_
                        refine tr_lald I109 t_a112 (by decide) d_Grouping_spread_173 (vp_in_iff.mpr (by omega)) (fun v113 => ?_)
                        refine mv_aload_n d_Grouping_spread_174 rfl rfl ?_
                        obtain ⟨a115, q114, t_a115⟩ := tm_atR I109 t100 (k := 5) rfl
                        refine tr_getK q114 d_Grouping_spread_175 f_Grouping_15_7 ?_
                        refine mv_iload_n d_Grouping_spread_178 rfl rfl ?_
                        refine tr_lald I109 t_a115 (by decide) d_Grouping_spread_179 (vp_in_iff.mpr (by omega)) (fun v116 => ?_)
                        refine mv_lsub d_Grouping_spread_180 ?_
                        refine tr_lastK tm_okF I109 t_a112 (by decide) (Or.inl (by decide)) d_Grouping_spread_181 (vp_in_iff.mpr (by omega)) (fun M117 I118 K119 => ?_)
                        refine mv_aload_n d_Grouping_spread_182 rfl rfl ?_
                        refine tr_getK (k := 10) (K119 _ 7 10 _ (K110 _ 7 10 _ q101)) d_Grouping_spread_183 f_Grouping_31_7 ?_
                        refine mv_iload d_Grouping_spread_186 rfl ?_
                        refine mv_iload d_Grouping_spread_188 rfl ?_
                        refine tr_iastK tm_okF I118 t102 (by decide) (Or.inl (by decide)) d_Grouping_spread_190 (vp_in_iff.mpr (by omega)) (fun M120 I121 K122 => ?_)
                        refine mv_iinc (v := (i5_37 + 1)) (lv' := [(5, .int (i5_37 + 1)), (6, .int v42), (3, .long (if (v12 - v17) < v4 then v4 else (v12 - v17))), (0, .ref o0), (1, .int x1), (2, .int x2)]) d_Grouping_spread_191 rfl rfl (by decide) rfl ?_
                        refine mv_goto (tgt := 89) d_Grouping_spread_194 (by decide) ?_
                        refine mv_locals (lv' := [(5, .int (i5_37 + 1)), (3, .long (if (v12 - v17) < v4 then v4 else (v12 - v17))), (0, .ref o0), (1, .int x1), (2, .int x2)]) (by intro q hq; simp only [List.mem_cons, List.not_mem_nil, or_false] at hq; rcases hq with rfl | rfl | rfl | rfl | rfl <;> rfl) ?_
                        have b123 : (i5_37 + 1).toInt = i5_37.toInt + 1 := mz_addn 1 1 (by decide) (by have := mz_lo i5_37; omega) (by have := mz_hi i5_37; omega)
                        exact (ih37 (i5_37 + 1) T96 M120 n95 I121 t100 (by first | omega | decide) (by omega))
                      · refine mv_iload_n d_Grouping_spread_145 rfl rfl ?_
                        refine mv_iconst (v := 1) d_Grouping_spread_146 (by decide) ?_
                        refine mv_iadd d_Grouping_spread_147 ?_
                        refine mv_goto (tgt := 152) d_Grouping_spread_148 (by decide) ?_
                        have b124 : (x1 + 1).toInt = x1.toInt + 1 := mz_addn 1 1 (by decide) (by omega) (by omega)
                        obtain ⟨_, b131, -⟩ := I89.1 _ _ t63
                        refine mv_callV (kc' := 0) (ks' := 0) (As := [.int (x1 + 1), .int (x2 + 1)]) (st9 := [.int (x2 + 1), .int (x1 + 1), .ref o0]) d_Grouping_spread_152 lV_Grouping_77 b131 rfl (tc_Grouping_spread_q0 (d := (d + 1)) (x9 := x9) (o0 := o0) (x1 := (x1 + 1)) (x2 := (x2 + 1)) t63 (by first | omega | decide) I89.start) rfl (Nat.le_of_ble_eq_true rfl) (Nat.le_of_ble_eq_true rfl) (Nat.le_of_ble_eq_true rfl) (hst := rfl) (fun b125r M126 n127 b125 => ?_)
                        obtain ⟨T128, J129, rfl⟩ := b125
                        have I130 := I89.call J129 (tm_sub (by decide)) (Or.inl rfl)
                        have t132 := J129.up t63
                        have q133 := J129.keep t63 (by decide) (K90 _ 7 10 _ q64)
                        have t134 := J129.up t65
                        have q135 := J129.keep t63 (by decide) (K90 _ 7 7 _ q86)
                        have t136 := J129.up t_a87
                        refine mv_aload_n d_Grouping_spread_155 rfl rfl ?_
                        obtain ⟨a138, q137, t_a138⟩ := tm_atR I130 t132 (k := 9) rfl
                        refine tr_getK q137 d_Grouping_spread_156 f_Grouping_28_7 ?_
                        refine mv_iload d_Grouping_spread_159 rfl ?_
                        refine mv_dup2_11 d_Grouping_spread_161 rfl rfl ?_
                        refine tr_iald I130 t_a138 (by decide) d_Grouping_spread_162 (vp_in_iff.mpr (by omega)) (fun v139 => ?_)
                        refine mv_iconst (v := 1) d_Grouping_spread_163 (by decide) ?_
                        refine mv_isub d_Grouping_spread_164 ?_
                        refine tr_iastK tm_okF I130 t_a138 (by decide) (Or.inl (by decide)) d_Grouping_spread_165 (vp_in_iff.mpr (by omega)) (fun M140 I141 K142 => ?_)
                        refine mv_aload_n d_Grouping_spread_166 rfl rfl ?_
                        obtain ⟨a144, q143, t_a144⟩ := tm_atR I141 t132 (k := 11) rfl
                        refine tr_getK q143 d_Grouping_spread_167 f_Grouping_34_7 ?_
                        refine mv_iload d_Grouping_spread_170 rfl ?_
                        refine mv_dup2_11 d_Grouping_spread_172 rfl rfl ?_
                        refine tr_lald I141 t_a144 (by decide) d_Grouping_spread_173 (vp_in_iff.mpr (by omega)) (fun v145 => ?_)
                        refine mv_aload_n d_Grouping_spread_174 rfl rfl ?_
                        obtain ⟨a147, q146, t_a147⟩ := tm_atR I141 t132 (k := 5) rfl
                        refine tr_getK q146 d_Grouping_spread_175 f_Grouping_15_7 ?_
                        refine mv_iload_n d_Grouping_spread_178 rfl rfl ?_
                        refine tr_lald I141 t_a147 (by decide) d_Grouping_spread_179 (vp_in_iff.mpr (by omega)) (fun v148 => ?_)
                        refine mv_lsub d_Grouping_spread_180 ?_
                        refine tr_lastK tm_okF I141 t_a144 (by decide) (Or.inl (by decide)) d_Grouping_spread_181 (vp_in_iff.mpr (by omega)) (fun M149 I150 K151 => ?_)
                        refine mv_aload_n d_Grouping_spread_182 rfl rfl ?_
                        refine tr_getK (k := 10) (K151 _ 7 10 _ (K142 _ 7 10 _ q133)) d_Grouping_spread_183 f_Grouping_31_7 ?_
                        refine mv_iload d_Grouping_spread_186 rfl ?_
                        refine mv_iload d_Grouping_spread_188 rfl ?_
                        refine tr_iastK tm_okF I150 t134 (by decide) (Or.inl (by decide)) d_Grouping_spread_190 (vp_in_iff.mpr (by omega)) (fun M152 I153 K154 => ?_)
                        refine mv_iinc (v := (i5_37 + 1)) (lv' := [(5, .int (i5_37 + 1)), (6, .int v42), (3, .long (if (v12 - v17) < v4 then v4 else (v12 - v17))), (0, .ref o0), (1, .int x1), (2, .int x2)]) d_Grouping_spread_191 rfl rfl (by decide) rfl ?_
                        refine mv_goto (tgt := 89) d_Grouping_spread_194 (by decide) ?_
                        refine mv_locals (lv' := [(5, .int (i5_37 + 1)), (3, .long (if (v12 - v17) < v4 then v4 else (v12 - v17))), (0, .ref o0), (1, .int x1), (2, .int x2)]) (by intro q hq; simp only [List.mem_cons, List.not_mem_nil, or_false] at hq; rcases hq with rfl | rfl | rfl | rfl | rfl <;> rfl) ?_
                        have b155 : (i5_37 + 1).toInt = i5_37.toInt + 1 := mz_addn 1 1 (by decide) (by have := mz_lo i5_37; omega) (by have := mz_hi i5_37; omega)
                        exact (ih37 (i5_37 + 1) T128 M152 n127 I153 t132 (by first | omega | decide) (by omega))
            exact mv_less (Nat.zero_le _) (Nat.zero_le _) (L89_37 4294967296 0 T8 M6 n7 I10 t13 (by first | omega | decide) (by show (2147483647 - (0 : Int) : Int) < _; decide))
          · refine mv_aload_n d_Grouping_spread_79 rfl rfl ?_
            refine mv_lload_n d_Grouping_spread_80 rfl rfl ?_
            refine mv_iload_n d_Grouping_spread_81 rfl rfl ?_
            obtain ⟨_, b162, -⟩ := I10.1 _ _ t13
            refine mv_callV (kc' := 0) (ks' := 0) (As := [.long (if (v12 - v17) < v4 then v4 else (v12 - v17)), .int x2]) (st9 := [.int x2, .long (if (v12 - v17) < v4 then v4 else (v12 - v17)), .ref o0]) d_Grouping_spread_82 lV_Grouping_80 b162 rfl (tc_Grouping_keepAsBest (d := (d + 1)) (x9 := x9) (o0 := o0) (x1 := (if (v12 - v17) < v4 then v4 else (v12 - v17))) (x2 := x2) t13 I10.start) rfl (Nat.le_of_ble_eq_true rfl) (Nat.le_of_ble_eq_true rfl) (Nat.le_of_ble_eq_true rfl) (hst := rfl) (fun b156r M157 n158 b156 => ?_)
            obtain ⟨T159, J160, rfl⟩ := b156
            have I161 := I10.call J160 (tm_sub (by decide)) (Or.inl rfl)
            have t163 := J160.up t13
            have q164 := J160.keep t13 (by decide) q14
            have q165 := J160.keep t13 (by decide) q15
            have t166 := J160.up t_a16
            have q167 := J160.keep t13 (by decide) q21
            exact mv_vret d_Grouping_spread_85 rfl ⟨_, I161, rfl⟩
      · refine mv_lload_n d_Grouping_spread_38 rfl rfl ?_
        refine mv_aload_n d_Grouping_spread_39 rfl rfl ?_
        obtain ⟨v169, q168⟩ := tm_atL I10 t13 (k := 0) rfl
        refine tr_getK q168 d_Grouping_spread_40 f_Grouping_50_7 ?_
        refine mv_lgtZ (tgt := 64) (a := (if (v12 - v17) < v4 then v4 else (v12 - v17)).toInt) (b := v169.toInt) d_Grouping_spread_43 d_Grouping_spread_44 (by decide) rfl rfl (fun b170 => ?_) (fun b170 => ?_)
        · exact mv_vret d_Grouping_spread_64 rfl ⟨_, I10, rfl⟩
        · refine mv_lload_n d_Grouping_spread_47 rfl rfl ?_
          refine mv_aload_n d_Grouping_spread_48 rfl rfl ?_
          refine tr_getK (k := 0) q168 d_Grouping_spread_49 f_Grouping_50_7 ?_
          refine mv_lneZ (tgt := 65) (a := (if (v12 - v17) < v4 then v4 else (v12 - v17)).toInt) (b := v169.toInt) d_Grouping_spread_52 d_Grouping_spread_53 (by decide) rfl rfl (fun b171 => ?_) (fun b171 => ?_)
          · refine mv_iload_n d_Grouping_spread_65 rfl rfl ?_
            refine mv_aload_n d_Grouping_spread_66 rfl rfl ?_
            obtain ⟨v173, q172⟩ := tm_atI I10 t13 (k := 2) rfl
            refine tr_getK q172 d_Grouping_spread_67 f_Grouping_44_7 ?_
            have := mz_hi x1
            have := mz_hi v173
            refine mv_icmp_geZ (tgt := 79) (a := x1.toInt) (b := v173.toInt) d_Grouping_spread_70 (by decide) rfl rfl (fun b174 => ?_) (fun b174 => ?_)
            · refine mv_aload_n d_Grouping_spread_79 rfl rfl ?_
              refine mv_lload_n d_Grouping_spread_80 rfl rfl ?_
              refine mv_iload_n d_Grouping_spread_81 rfl rfl ?_
              obtain ⟨_, b181, -⟩ := I10.1 _ _ t13
              refine mv_callV (kc' := 0) (ks' := 0) (As := [.long (if (v12 - v17) < v4 then v4 else (v12 - v17)), .int x2]) (st9 := [.int x2, .long (if (v12 - v17) < v4 then v4 else (v12 - v17)), .ref o0]) d_Grouping_spread_82 lV_Grouping_80 b181 rfl (tc_Grouping_keepAsBest (d := (d + 1)) (x9 := x9) (o0 := o0) (x1 := (if (v12 - v17) < v4 then v4 else (v12 - v17))) (x2 := x2) t13 I10.start) rfl (Nat.le_of_ble_eq_true rfl) (Nat.le_of_ble_eq_true rfl) (Nat.le_of_ble_eq_true rfl) (hst := rfl) (fun b175r M176 n177 b175 => ?_)
              obtain ⟨T178, J179, rfl⟩ := b175
              have I180 := I10.call J179 (tm_sub (by decide)) (Or.inl rfl)
              have t182 := J179.up t13
              have q183 := J179.keep t13 (by decide) q14
              have q184 := J179.keep t13 (by decide) q15
              have t185 := J179.up t_a16
              have q186 := J179.keep t13 (by decide) q172
              exact mv_vret d_Grouping_spread_85 rfl ⟨_, I180, rfl⟩
            · refine mv_iload_n d_Grouping_spread_73 rfl rfl ?_
              refine mv_bipush (v := 8) d_Grouping_spread_74 (by decide) ?_
              have := mz_hi x1
              refine mv_icmp_neZ (tgt := 86) (a := x1.toInt) (b := 8) d_Grouping_spread_76 (by decide) rfl (by decide) (fun b187 => ?_) (fun b187 => ?_)
              · refine mv_iconst (v := 0) d_Grouping_spread_86 (by decide) ?_
                refine mv_istore (lv' := [(5, .int 0), (3, .long (if (v12 - v17) < v4 then v4 else (v12 - v17))), (0, .ref o0), (1, .int x1), (2, .int x2)]) d_Grouping_spread_87 (by decide) rfl ?_
                have L89_188 : ∀ (k : Nat) (i5_188 : Int32) (T_188 : tm_H) (M_188 : mj_M) (n_188 : Nat), tm_I tm_FT (tm_in w_Grouping_spread_q1) x9 T0 M0 n0 T_188 M_188 n_188 → T_188 o0 = some (0, 7, 0) → 0 ≤ i5_188.toInt → 2147483647 - i5_188.toInt < (k : Int) → mj_V g l kY_Grouping_spread (d + 2) 89 [(5, .int i5_188), (3, .long (if (v12 - v17) < v4 then v4 else (v12 - v17))), (0, .ref o0), (1, .int x1), (2, .int x2)] [] M_188 n_188 0 0 (tm_Q tm_FT (tm_in w_Grouping_spread_q1) x9 T0 M0 n0 (fun r _ _ => r = none)) := by
                  intro k188
                  induction k188 with
                  | zero =>
                    intro i5_188 T_188 M_188 n_188 I_188 h_q0_188 iv0_188 hk188
                    have := mz_hi i5_188
                    omega
                  | succ k188 ih188 =>
                    intro i5_188 T_188 M_188 n_188 I_188 h_q0_188 iv0_188 hk188
                    refine mv_iload d_Grouping_spread_89 rfl ?_
                    refine mv_iload_n d_Grouping_spread_91 rfl rfl ?_
                    have := mz_hi i5_188
                    have := mz_hi x2
                    refine mv_icmp_gtZ (tgt := 197) (a := i5_188.toInt) (b := x2.toInt) d_Grouping_spread_92 (by decide) rfl rfl (fun b189 => ?_) (fun b189 => ?_)
                    · exact mv_vret d_Grouping_spread_197 rfl ⟨_, I_188, rfl⟩
                    · refine mv_iload d_Grouping_spread_95 rfl ?_
                      refine mv_bipush (v := 8) d_Grouping_spread_97 (by decide) ?_
                      have := mz_hi i5_188
                      refine mv_icmp_geZ (tgt := 197) (a := i5_188.toInt) (b := 8) d_Grouping_spread_99 (by decide) rfl (by decide) (fun b190 => ?_) (fun b190 => ?_)
                      · exact mv_vret d_Grouping_spread_197 rfl ⟨_, I_188, rfl⟩
                      · refine mv_aload_n d_Grouping_spread_102 rfl rfl ?_
                        obtain ⟨a192, q191, t_a192⟩ := tm_atR I_188 h_q0_188 (k := 10) rfl
                        refine tr_getK q191 d_Grouping_spread_103 f_Grouping_31_7 ?_
                        refine mv_iload d_Grouping_spread_106 rfl ?_
                        refine tr_iald I_188 t_a192 (by decide) d_Grouping_spread_108 (vp_in_iff.mpr (by omega)) (fun v193 => ?_)
                        refine mv_istore (lv' := [(6, .int v193), (5, .int i5_188), (3, .long (if (v12 - v17) < v4 then v4 else (v12 - v17))), (0, .ref o0), (1, .int x1), (2, .int x2)]) d_Grouping_spread_109 (by decide) rfl ?_
                        refine mv_aload_n d_Grouping_spread_111 rfl rfl ?_
                        refine mv_iload_n d_Grouping_spread_112 rfl rfl ?_
                        refine mv_iload d_Grouping_spread_113 rfl ?_
                        obtain ⟨_, b200, -⟩ := I_188.1 _ _ h_q0_188
                        refine mv_callV (kc' := 0) (ks' := 0) (As := [.int x1, .int i5_188]) (st9 := [.int i5_188, .int x1, .ref o0]) d_Grouping_spread_115 lV_Grouping_56 b200 rfl (tc_Grouping_put (d := (d + 1)) (x9 := x9) (o0 := o0) (x1 := x1) (x2 := i5_188) h_q0_188 I_188.start) rfl (Nat.le_of_ble_eq_true rfl) (Nat.le_of_ble_eq_true rfl) (Nat.le_of_ble_eq_true rfl) (hst := rfl) (fun b194r M195 n196 b194 => ?_)
                        obtain ⟨T197, J198, rfl⟩ := b194
                        have I199 := I_188.call J198 (tm_sub (by decide)) (Or.inl rfl)
                        have t201 := J198.up h_q0_188
                        have q202 := J198.keep h_q0_188 (by decide) q191
                        have t203 := J198.up t_a192
                        refine mv_aload_n d_Grouping_spread_118 rfl rfl ?_
                        refine mv_iload d_Grouping_spread_119 rfl ?_
                        obtain ⟨_, b210, -⟩ := I199.1 _ _ t201
                        refine mv_callV (kc' := 0) (ks' := 0) (As := [.int i5_188]) (st9 := [.int i5_188, .ref o0]) d_Grouping_spread_121 lV_Grouping_60 b210 rfl (tc_Grouping_holdsTogether (d := d) (x9 := x9) (o0 := o0) (x1 := i5_188) t201 I199.start) rfl (Nat.le_of_ble_eq_true rfl) (Nat.le_of_ble_eq_true rfl) (Nat.le_of_ble_eq_true rfl) (hst := rfl) (fun b204r M205 n206 b204 => ?_)
                        obtain ⟨T207, J208, v211, rfl, b212, b213⟩ := b204
                        have I209 := I199.call J208 (tm_sub (by decide)) (Or.inl rfl)
                        have t214 := J208.up t201
                        have q215 := J208.keep t201 (by decide) q202
                        have t216 := J208.up t203
                        have := mz_hi v211
                        refine mv_if_eqZ (tgt := 155) (a := v211.toInt) d_Grouping_spread_124 (by decide) rfl (fun b217 => ?_) (fun b217 => ?_)
                        · refine mv_aload_n d_Grouping_spread_155 rfl rfl ?_
                          obtain ⟨a219, q218, t_a219⟩ := tm_atR I209 t214 (k := 9) rfl
                          refine tr_getK q218 d_Grouping_spread_156 f_Grouping_28_7 ?_
                          refine mv_iload d_Grouping_spread_159 rfl ?_
                          refine mv_dup2_11 d_Grouping_spread_161 rfl rfl ?_
                          refine tr_iald I209 t_a219 (by decide) d_Grouping_spread_162 (vp_in_iff.mpr (by omega)) (fun v220 => ?_)
                          refine mv_iconst (v := 1) d_Grouping_spread_163 (by decide) ?_
                          refine mv_isub d_Grouping_spread_164 ?_
                          refine tr_iastK tm_okF I209 t_a219 (by decide) (Or.inl (by decide)) d_Grouping_spread_165 (vp_in_iff.mpr (by omega)) (fun M221 I222 K223 => ?_)
                          refine mv_aload_n d_Grouping_spread_166 rfl rfl ?_
                          obtain ⟨a225, q224, t_a225⟩ := tm_atR I222 t214 (k := 11) rfl
                          refine tr_getK q224 d_Grouping_spread_167 f_Grouping_34_7 ?_
                          refine mv_iload d_Grouping_spread_170 rfl ?_
                          refine mv_dup2_11 d_Grouping_spread_172 rfl rfl ?_
                          refine tr_lald I222 t_a225 (by decide) d_Grouping_spread_173 (vp_in_iff.mpr (by omega)) (fun v226 => ?_)
                          refine mv_aload_n d_Grouping_spread_174 rfl rfl ?_
                          obtain ⟨a228, q227, t_a228⟩ := tm_atR I222 t214 (k := 5) rfl
                          refine tr_getK q227 d_Grouping_spread_175 f_Grouping_15_7 ?_
                          refine mv_iload_n d_Grouping_spread_178 rfl rfl ?_
                          refine tr_lald I222 t_a228 (by decide) d_Grouping_spread_179 (vp_in_iff.mpr (by omega)) (fun v229 => ?_)
                          refine mv_lsub d_Grouping_spread_180 ?_
                          refine tr_lastK tm_okF I222 t_a225 (by decide) (Or.inl (by decide)) d_Grouping_spread_181 (vp_in_iff.mpr (by omega)) (fun M230 I231 K232 => ?_)
                          refine mv_aload_n d_Grouping_spread_182 rfl rfl ?_
                          refine tr_getK (k := 10) (K232 _ 7 10 _ (K223 _ 7 10 _ q215)) d_Grouping_spread_183 f_Grouping_31_7 ?_
                          refine mv_iload d_Grouping_spread_186 rfl ?_
                          refine mv_iload d_Grouping_spread_188 rfl ?_
                          refine tr_iastK tm_okF I231 t216 (by decide) (Or.inl (by decide)) d_Grouping_spread_190 (vp_in_iff.mpr (by omega)) (fun M233 I234 K235 => ?_)
                          refine mv_iinc (v := (i5_188 + 1)) (lv' := [(5, .int (i5_188 + 1)), (6, .int v193), (3, .long (if (v12 - v17) < v4 then v4 else (v12 - v17))), (0, .ref o0), (1, .int x1), (2, .int x2)]) d_Grouping_spread_191 rfl rfl (by decide) rfl ?_
                          refine mv_goto (tgt := 89) d_Grouping_spread_194 (by decide) ?_
                          refine mv_locals (lv' := [(5, .int (i5_188 + 1)), (3, .long (if (v12 - v17) < v4 then v4 else (v12 - v17))), (0, .ref o0), (1, .int x1), (2, .int x2)]) (by intro q hq; simp only [List.mem_cons, List.not_mem_nil, or_false] at hq; rcases hq with rfl | rfl | rfl | rfl | rfl <;> rfl) ?_
                          have b236 : (i5_188 + 1).toInt = i5_188.toInt + 1 := mz_addn 1 1 (by decide) (by have := mz_lo i5_188; omega) (by have := mz_hi i5_188; omega)
                          exact (ih188 (i5_188 + 1) T207 M233 n206 I234 t214 (by first | omega | decide) (by omega))
                        · refine mv_aload_n d_Grouping_spread_127 rfl rfl ?_
                          obtain ⟨a238, q237, t_a238⟩ := tm_atR I209 t214 (k := 7) rfl
                          refine tr_getK q237 d_Grouping_spread_128 f_Grouping_22_7 ?_
                          refine mv_iload_n d_Grouping_spread_131 rfl rfl ?_
                          refine mv_iload d_Grouping_spread_132 rfl ?_
                          refine tr_iastK tm_okF I209 t_a238 (by decide) (Or.inl (by decide)) d_Grouping_spread_134 (vp_in_iff.mpr (by omega)) (fun M239 I240 K241 => ?_)
                          refine mv_aload_n d_Grouping_spread_135 rfl rfl ?_
                          refine mv_iload_n d_Grouping_spread_136 rfl rfl ?_
                          refine mv_iconst (v := 1) d_Grouping_spread_137 (by decide) ?_
                          refine mv_iadd d_Grouping_spread_138 ?_
                          refine mv_iload d_Grouping_spread_139 rfl ?_
                          refine mv_iload_n d_Grouping_spread_141 rfl rfl ?_
                          have := mz_hi i5_188
                          have := mz_hi x2
                          refine mv_icmp_neZ (tgt := 151) (a := i5_188.toInt) (b := x2.toInt) d_Grouping_spread_142 (by decide) rfl rfl (fun b242 => ?_) (fun b242 => ?_)
                          · refine mv_iload_n d_Grouping_spread_151 rfl rfl ?_
                            have b243 : (x1 + 1).toInt = x1.toInt + 1 := mz_addn 1 1 (by decide) (by omega) (by omega)
                            obtain ⟨_, b250, -⟩ := I240.1 _ _ t214
                            refine mv_callV (kc' := 0) (ks' := 0) (As := [.int (x1 + 1), .int x2]) (st9 := [.int x2, .int (x1 + 1), .ref o0]) d_Grouping_spread_152 lV_Grouping_77 b250 rfl (tc_Grouping_spread_q0 (d := (d + 1)) (x9 := x9) (o0 := o0) (x1 := (x1 + 1)) (x2 := x2) t214 (by first | omega | decide) I240.start) rfl (Nat.le_of_ble_eq_true rfl) (Nat.le_of_ble_eq_true rfl) (Nat.le_of_ble_eq_true rfl) (hst := rfl) (fun b244r M245 n246 b244 => ?_)
                            obtain ⟨T247, J248, rfl⟩ := b244
                            have I249 := I240.call J248 (tm_sub (by decide)) (Or.inl rfl)
                            have t251 := J248.up t214
                            have q252 := J248.keep t214 (by decide) (K241 _ 7 10 _ q215)
                            have t253 := J248.up t216
                            have q254 := J248.keep t214 (by decide) (K241 _ 7 7 _ q237)
                            have t255 := J248.up t_a238
                            refine mv_aload_n d_Grouping_spread_155 rfl rfl ?_
                            obtain ⟨a257, q256, t_a257⟩ := tm_atR I249 t251 (k := 9) rfl
                            refine tr_getK q256 d_Grouping_spread_156 f_Grouping_28_7 ?_
                            refine mv_iload d_Grouping_spread_159 rfl ?_
                            refine mv_dup2_11 d_Grouping_spread_161 rfl rfl ?_
                            refine tr_iald I249 t_a257 (by decide) d_Grouping_spread_162 (vp_in_iff.mpr (by omega)) (fun v258 => ?_)
                            refine mv_iconst (v := 1) d_Grouping_spread_163 (by decide) ?_
                            refine mv_isub d_Grouping_spread_164 ?_
                            refine tr_iastK tm_okF I249 t_a257 (by decide) (Or.inl (by decide)) d_Grouping_spread_165 (vp_in_iff.mpr (by omega)) (fun M259 I260 K261 => ?_)
                            refine mv_aload_n d_Grouping_spread_166 rfl rfl ?_
                            obtain ⟨a263, q262, t_a263⟩ := tm_atR I260 t251 (k := 11) rfl
                            refine tr_getK q262 d_Grouping_spread_167 f_Grouping_34_7 ?_
                            refine mv_iload d_Grouping_spread_170 rfl ?_
                            refine mv_dup2_11 d_Grouping_spread_172 rfl rfl ?_
                            refine tr_lald I260 t_a263 (by decide) d_Grouping_spread_173 (vp_in_iff.mpr (by omega)) (fun v264 => ?_)
                            refine mv_aload_n d_Grouping_spread_174 rfl rfl ?_
                            obtain ⟨a266, q265, t_a266⟩ := tm_atR I260 t251 (k := 5) rfl
                            refine tr_getK q265 d_Grouping_spread_175 f_Grouping_15_7 ?_
                            refine mv_iload_n d_Grouping_spread_178 rfl rfl ?_
                            refine tr_lald I260 t_a266 (by decide) d_Grouping_spread_179 (vp_in_iff.mpr (by omega)) (fun v267 => ?_)
                            refine mv_lsub d_Grouping_spread_180 ?_
                            refine tr_lastK tm_okF I260 t_a263 (by decide) (Or.inl (by decide)) d_Grouping_spread_181 (vp_in_iff.mpr (by omega)) (fun M268 I269 K270 => ?_)
                            refine mv_aload_n d_Grouping_spread_182 rfl rfl ?_
                            refine tr_getK (k := 10) (K270 _ 7 10 _ (K261 _ 7 10 _ q252)) d_Grouping_spread_183 f_Grouping_31_7 ?_
                            refine mv_iload d_Grouping_spread_186 rfl ?_
                            refine mv_iload d_Grouping_spread_188 rfl ?_
                            refine tr_iastK tm_okF I269 t253 (by decide) (Or.inl (by decide)) d_Grouping_spread_190 (vp_in_iff.mpr (by omega)) (fun M271 I272 K273 => ?_)
                            refine mv_iinc (v := (i5_188 + 1)) (lv' := [(5, .int (i5_188 + 1)), (6, .int v193), (3, .long (if (v12 - v17) < v4 then v4 else (v12 - v17))), (0, .ref o0), (1, .int x1), (2, .int x2)]) d_Grouping_spread_191 rfl rfl (by decide) rfl ?_
                            refine mv_goto (tgt := 89) d_Grouping_spread_194 (by decide) ?_
                            refine mv_locals (lv' := [(5, .int (i5_188 + 1)), (3, .long (if (v12 - v17) < v4 then v4 else (v12 - v17))), (0, .ref o0), (1, .int x1), (2, .int x2)]) (by intro q hq; simp only [List.mem_cons, List.not_mem_nil, or_false] at hq; rcases hq with rfl | rfl | rfl | rfl | rfl <;> rfl) ?_
                            have b274 : (i5_188 + 1).toInt = i5_188.toInt + 1 := mz_addn 1 1 (by decide) (by have := mz_lo i5_188; omega) (by have := mz_hi i5_188; omega)
                            exact (ih188 (i5_188 + 1) T247 M271 n246 I272 t251 (by first | omega | decide) (by omega))
                          · refine mv_iload_n d_Grouping_spread_145 rfl rfl ?_
                            refine mv_iconst (v := 1) d_Grouping_spread_146 (by decide) ?_
                            refine mv_iadd d_Grouping_spread_147 ?_
                            refine mv_goto (tgt := 152) d_Grouping_spread_148 (by decide) ?_
                            have b275 : (x1 + 1).toInt = x1.toInt + 1 := mz_addn 1 1 (by decide) (by omega) (by omega)
                            obtain ⟨_, b282, -⟩ := I240.1 _ _ t214
                            refine mv_callV (kc' := 0) (ks' := 0) (As := [.int (x1 + 1), .int (x2 + 1)]) (st9 := [.int (x2 + 1), .int (x1 + 1), .ref o0]) d_Grouping_spread_152 lV_Grouping_77 b282 rfl (tc_Grouping_spread_q0 (d := (d + 1)) (x9 := x9) (o0 := o0) (x1 := (x1 + 1)) (x2 := (x2 + 1)) t214 (by first | omega | decide) I240.start) rfl (Nat.le_of_ble_eq_true rfl) (Nat.le_of_ble_eq_true rfl) (Nat.le_of_ble_eq_true rfl) (hst := rfl) (fun b276r M277 n278 b276 => ?_)
                            obtain ⟨T279, J280, rfl⟩ := b276
                            have I281 := I240.call J280 (tm_sub (by decide)) (Or.inl rfl)
                            have t283 := J280.up t214
                            have q284 := J280.keep t214 (by decide) (K241 _ 7 10 _ q215)
                            have t285 := J280.up t216
                            have q286 := J280.keep t214 (by decide) (K241 _ 7 7 _ q237)
                            have t287 := J280.up t_a238
                            refine mv_aload_n d_Grouping_spread_155 rfl rfl ?_
                            obtain ⟨a289, q288, t_a289⟩ := tm_atR I281 t283 (k := 9) rfl
                            refine tr_getK q288 d_Grouping_spread_156 f_Grouping_28_7 ?_
                            refine mv_iload d_Grouping_spread_159 rfl ?_
                            refine mv_dup2_11 d_Grouping_spread_161 rfl rfl ?_
                            refine tr_iald I281 t_a289 (by decide) d_Grouping_spread_162 (vp_in_iff.mpr (by omega)) (fun v290 => ?_)
                            refine mv_iconst (v := 1) d_Grouping_spread_163 (by decide) ?_
                            refine mv_isub d_Grouping_spread_164 ?_
                            refine tr_iastK tm_okF I281 t_a289 (by decide) (Or.inl (by decide)) d_Grouping_spread_165 (vp_in_iff.mpr (by omega)) (fun M291 I292 K293 => ?_)
                            refine mv_aload_n d_Grouping_spread_166 rfl rfl ?_
                            obtain ⟨a295, q294, t_a295⟩ := tm_atR I292 t283 (k := 11) rfl
                            refine tr_getK q294 d_Grouping_spread_167 f_Grouping_34_7 ?_
                            refine mv_iload d_Grouping_spread_170 rfl ?_
                            refine mv_dup2_11 d_Grouping_spread_172 rfl rfl ?_
                            refine tr_lald I292 t_a295 (by decide) d_Grouping_spread_173 (vp_in_iff.mpr (by omega)) (fun v296 => ?_)
                            refine mv_aload_n d_Grouping_spread_174 rfl rfl ?_
                            obtain ⟨a298, q297, t_a298⟩ := tm_atR I292 t283 (k := 5) rfl
                            refine tr_getK q297 d_Grouping_spread_175 f_Grouping_15_7 ?_
                            refine mv_iload_n d_Grouping_spread_178 rfl rfl ?_
                            refine tr_lald I292 t_a298 (by decide) d_Grouping_spread_179 (vp_in_iff.mpr (by omega)) (fun v299 => ?_)
                            refine mv_lsub d_Grouping_spread_180 ?_
                            refine tr_lastK tm_okF I292 t_a295 (by decide) (Or.inl (by decide)) d_Grouping_spread_181 (vp_in_iff.mpr (by omega)) (fun M300 I301 K302 => ?_)
                            refine mv_aload_n d_Grouping_spread_182 rfl rfl ?_
                            refine tr_getK (k := 10) (K302 _ 7 10 _ (K293 _ 7 10 _ q284)) d_Grouping_spread_183 f_Grouping_31_7 ?_
                            refine mv_iload d_Grouping_spread_186 rfl ?_
                            refine mv_iload d_Grouping_spread_188 rfl ?_
                            refine tr_iastK tm_okF I301 t285 (by decide) (Or.inl (by decide)) d_Grouping_spread_190 (vp_in_iff.mpr (by omega)) (fun M303 I304 K305 => ?_)
                            refine mv_iinc (v := (i5_188 + 1)) (lv' := [(5, .int (i5_188 + 1)), (6, .int v193), (3, .long (if (v12 - v17) < v4 then v4 else (v12 - v17))), (0, .ref o0), (1, .int x1), (2, .int x2)]) d_Grouping_spread_191 rfl rfl (by decide) rfl ?_
                            refine mv_goto (tgt := 89) d_Grouping_spread_194 (by decide) ?_
                            refine mv_locals (lv' := [(5, .int (i5_188 + 1)), (3, .long (if (v12 - v17) < v4 then v4 else (v12 - v17))), (0, .ref o0), (1, .int x1), (2, .int x2)]) (by intro q hq; simp only [List.mem_cons, List.not_mem_nil, or_false] at hq; rcases hq with rfl | rfl | rfl | rfl | rfl <;> rfl) ?_
                            have b306 : (i5_188 + 1).toInt = i5_188.toInt + 1 := mz_addn 1 1 (by decide) (by have := mz_lo i5_188; omega) (by have := mz_hi i5_188; omega)
                            exact (ih188 (i5_188 + 1) T279 M303 n278 I304 t283 (by first | omega | decide) (by omega))
                exact mv_less (Nat.zero_le _) (Nat.zero_le _) (L89_188 4294967296 0 T8 M6 n7 I10 t13 (by first | omega | decide) (by show (2147483647 - (0 : Int) : Int) < _; decide))
              · refine mv_aload_n d_Grouping_spread_79 rfl rfl ?_
                refine mv_lload_n d_Grouping_spread_80 rfl rfl ?_
                refine mv_iload_n d_Grouping_spread_81 rfl rfl ?_
                obtain ⟨_, b313, -⟩ := I10.1 _ _ t13
                refine mv_callV (kc' := 0) (ks' := 0) (As := [.long (if (v12 - v17) < v4 then v4 else (v12 - v17)), .int x2]) (st9 := [.int x2, .long (if (v12 - v17) < v4 then v4 else (v12 - v17)), .ref o0]) d_Grouping_spread_82 lV_Grouping_80 b313 rfl (tc_Grouping_keepAsBest (d := (d + 1)) (x9 := x9) (o0 := o0) (x1 := (if (v12 - v17) < v4 then v4 else (v12 - v17))) (x2 := x2) t13 I10.start) rfl (Nat.le_of_ble_eq_true rfl) (Nat.le_of_ble_eq_true rfl) (Nat.le_of_ble_eq_true rfl) (hst := rfl) (fun b307r M308 n309 b307 => ?_)
                obtain ⟨T310, J311, rfl⟩ := b307
                have I312 := I10.call J311 (tm_sub (by decide)) (Or.inl rfl)
                have t314 := J311.up t13
                have q315 := J311.keep t13 (by decide) q14
                have q316 := J311.keep t13 (by decide) q15
                have t317 := J311.up t_a16
                have q318 := J311.keep t13 (by decide) q172
                exact mv_vret d_Grouping_spread_85 rfl ⟨_, I312, rfl⟩
          · refine mv_iload_n d_Grouping_spread_56 rfl rfl ?_
            refine mv_aload_n d_Grouping_spread_57 rfl rfl ?_
            refine tr_getK (k := 3) q18 d_Grouping_spread_58 f_Grouping_47_7 ?_
            have := mz_hi x2
            have := mz_hi v19
            refine mv_icmp_ltZ (tgt := 65) (a := x2.toInt) (b := v19.toInt) d_Grouping_spread_61 (by decide) rfl rfl (fun b319 => ?_) (fun b319 => ?_)
            · refine mv_iload_n d_Grouping_spread_65 rfl rfl ?_
              refine mv_aload_n d_Grouping_spread_66 rfl rfl ?_
              obtain ⟨v321, q320⟩ := tm_atI I10 t13 (k := 2) rfl
              refine tr_getK q320 d_Grouping_spread_67 f_Grouping_44_7 ?_
              have := mz_hi x1
              have := mz_hi v321
              refine mv_icmp_geZ (tgt := 79) (a := x1.toInt) (b := v321.toInt) d_Grouping_spread_70 (by decide) rfl rfl (fun b322 => ?_) (fun b322 => ?_)
              · refine mv_aload_n d_Grouping_spread_79 rfl rfl ?_
                refine mv_lload_n d_Grouping_spread_80 rfl rfl ?_
                refine mv_iload_n d_Grouping_spread_81 rfl rfl ?_
                obtain ⟨_, b329, -⟩ := I10.1 _ _ t13
                refine mv_callV (kc' := 0) (ks' := 0) (As := [.long (if (v12 - v17) < v4 then v4 else (v12 - v17)), .int x2]) (st9 := [.int x2, .long (if (v12 - v17) < v4 then v4 else (v12 - v17)), .ref o0]) d_Grouping_spread_82 lV_Grouping_80 b329 rfl (tc_Grouping_keepAsBest (d := (d + 1)) (x9 := x9) (o0 := o0) (x1 := (if (v12 - v17) < v4 then v4 else (v12 - v17))) (x2 := x2) t13 I10.start) rfl (Nat.le_of_ble_eq_true rfl) (Nat.le_of_ble_eq_true rfl) (Nat.le_of_ble_eq_true rfl) (hst := rfl) (fun b323r M324 n325 b323 => ?_)
                obtain ⟨T326, J327, rfl⟩ := b323
                have I328 := I10.call J327 (tm_sub (by decide)) (Or.inl rfl)
                have t330 := J327.up t13
                have q331 := J327.keep t13 (by decide) q14
                have q332 := J327.keep t13 (by decide) q15
                have t333 := J327.up t_a16
                have q334 := J327.keep t13 (by decide) q320
                exact mv_vret d_Grouping_spread_85 rfl ⟨_, I328, rfl⟩
              · refine mv_iload_n d_Grouping_spread_73 rfl rfl ?_
                refine mv_bipush (v := 8) d_Grouping_spread_74 (by decide) ?_
                have := mz_hi x1
                refine mv_icmp_neZ (tgt := 86) (a := x1.toInt) (b := 8) d_Grouping_spread_76 (by decide) rfl (by decide) (fun b335 => ?_) (fun b335 => ?_)
                · refine mv_iconst (v := 0) d_Grouping_spread_86 (by decide) ?_
                  refine mv_istore (lv' := [(5, .int 0), (3, .long (if (v12 - v17) < v4 then v4 else (v12 - v17))), (0, .ref o0), (1, .int x1), (2, .int x2)]) d_Grouping_spread_87 (by decide) rfl ?_
                  have L89_336 : ∀ (k : Nat) (i5_336 : Int32) (T_336 : tm_H) (M_336 : mj_M) (n_336 : Nat), tm_I tm_FT (tm_in w_Grouping_spread_q1) x9 T0 M0 n0 T_336 M_336 n_336 → T_336 o0 = some (0, 7, 0) → 0 ≤ i5_336.toInt → 2147483647 - i5_336.toInt < (k : Int) → mj_V g l kY_Grouping_spread (d + 2) 89 [(5, .int i5_336), (3, .long (if (v12 - v17) < v4 then v4 else (v12 - v17))), (0, .ref o0), (1, .int x1), (2, .int x2)] [] M_336 n_336 0 0 (tm_Q tm_FT (tm_in w_Grouping_spread_q1) x9 T0 M0 n0 (fun r _ _ => r = none)) := by
                    intro k336
                    induction k336 with
                    | zero =>
                      intro i5_336 T_336 M_336 n_336 I_336 h_q0_336 iv0_336 hk336
                      have := mz_hi i5_336
                      omega
                    | succ k336 ih336 =>
                      intro i5_336 T_336 M_336 n_336 I_336 h_q0_336 iv0_336 hk336
                      refine mv_iload d_Grouping_spread_89 rfl ?_
                      refine mv_iload_n d_Grouping_spread_91 rfl rfl ?_
                      have := mz_hi i5_336
                      have := mz_hi x2
                      refine mv_icmp_gtZ (tgt := 197) (a := i5_336.toInt) (b := x2.toInt) d_Grouping_spread_92 (by decide) rfl rfl (fun b337 => ?_) (fun b337 => ?_)
                      · exact mv_vret d_Grouping_spread_197 rfl ⟨_, I_336, rfl⟩
                      · refine mv_iload d_Grouping_spread_95 rfl ?_
                        refine mv_bipush (v := 8) d_Grouping_spread_97 (by decide) ?_
                        have := mz_hi i5_336
                        refine mv_icmp_geZ (tgt := 197) (a := i5_336.toInt) (b := 8) d_Grouping_spread_99 (by decide) rfl (by decide) (fun b338 => ?_) (fun b338 => ?_)
                        · exact mv_vret d_Grouping_spread_197 rfl ⟨_, I_336, rfl⟩
                        · refine mv_aload_n d_Grouping_spread_102 rfl rfl ?_
                          obtain ⟨a340, q339, t_a340⟩ := tm_atR I_336 h_q0_336 (k := 10) rfl
                          refine tr_getK q339 d_Grouping_spread_103 f_Grouping_31_7 ?_
                          refine mv_iload d_Grouping_spread_106 rfl ?_
                          refine tr_iald I_336 t_a340 (by decide) d_Grouping_spread_108 (vp_in_iff.mpr (by omega)) (fun v341 => ?_)
                          refine mv_istore (lv' := [(6, .int v341), (5, .int i5_336), (3, .long (if (v12 - v17) < v4 then v4 else (v12 - v17))), (0, .ref o0), (1, .int x1), (2, .int x2)]) d_Grouping_spread_109 (by decide) rfl ?_
                          refine mv_aload_n d_Grouping_spread_111 rfl rfl ?_
                          refine mv_iload_n d_Grouping_spread_112 rfl rfl ?_
                          refine mv_iload d_Grouping_spread_113 rfl ?_
                          obtain ⟨_, b348, -⟩ := I_336.1 _ _ h_q0_336
                          refine mv_callV (kc' := 0) (ks' := 0) (As := [.int x1, .int i5_336]) (st9 := [.int i5_336, .int x1, .ref o0]) d_Grouping_spread_115 lV_Grouping_56 b348 rfl (tc_Grouping_put (d := (d + 1)) (x9 := x9) (o0 := o0) (x1 := x1) (x2 := i5_336) h_q0_336 I_336.start) rfl (Nat.le_of_ble_eq_true rfl) (Nat.le_of_ble_eq_true rfl) (Nat.le_of_ble_eq_true rfl) (hst := rfl) (fun b342r M343 n344 b342 => ?_)
                          obtain ⟨T345, J346, rfl⟩ := b342
                          have I347 := I_336.call J346 (tm_sub (by decide)) (Or.inl rfl)
                          have t349 := J346.up h_q0_336
                          have q350 := J346.keep h_q0_336 (by decide) q339
                          have t351 := J346.up t_a340
                          refine mv_aload_n d_Grouping_spread_118 rfl rfl ?_
                          refine mv_iload d_Grouping_spread_119 rfl ?_
                          obtain ⟨_, b358, -⟩ := I347.1 _ _ t349
                          refine mv_callV (kc' := 0) (ks' := 0) (As := [.int i5_336]) (st9 := [.int i5_336, .ref o0]) d_Grouping_spread_121 lV_Grouping_60 b358 rfl (tc_Grouping_holdsTogether (d := d) (x9 := x9) (o0 := o0) (x1 := i5_336) t349 I347.start) rfl (Nat.le_of_ble_eq_true rfl) (Nat.le_of_ble_eq_true rfl) (Nat.le_of_ble_eq_true rfl) (hst := rfl) (fun b352r M353 n354 b352 => ?_)
                          obtain ⟨T355, J356, v359, rfl, b360, b361⟩ := b352
                          have I357 := I347.call J356 (tm_sub (by decide)) (Or.inl rfl)
                          have t362 := J356.up t349
                          have q363 := J356.keep t349 (by decide) q350
                          have t364 := J356.up t351
                          have := mz_hi v359
                          refine mv_if_eqZ (tgt := 155) (a := v359.toInt) d_Grouping_spread_124 (by decide) rfl (fun b365 => ?_) (fun b365 => ?_)
                          · refine mv_aload_n d_Grouping_spread_155 rfl rfl ?_
                            obtain ⟨a367, q366, t_a367⟩ := tm_atR I357 t362 (k := 9) rfl
                            refine tr_getK q366 d_Grouping_spread_156 f_Grouping_28_7 ?_
                            refine mv_iload d_Grouping_spread_159 rfl ?_
                            refine mv_dup2_11 d_Grouping_spread_161 rfl rfl ?_
                            refine tr_iald I357 t_a367 (by decide) d_Grouping_spread_162 (vp_in_iff.mpr (by omega)) (fun v368 => ?_)
                            refine mv_iconst (v := 1) d_Grouping_spread_163 (by decide) ?_
                            refine mv_isub d_Grouping_spread_164 ?_
                            refine tr_iastK tm_okF I357 t_a367 (by decide) (Or.inl (by decide)) d_Grouping_spread_165 (vp_in_iff.mpr (by omega)) (fun M369 I370 K371 => ?_)
                            refine mv_aload_n d_Grouping_spread_166 rfl rfl ?_
                            obtain ⟨a373, q372, t_a373⟩ := tm_atR I370 t362 (k := 11) rfl
                            refine tr_getK q372 d_Grouping_spread_167 f_Grouping_34_7 ?_
                            refine mv_iload d_Grouping_spread_170 rfl ?_
                            refine mv_dup2_11 d_Grouping_spread_172 rfl rfl ?_
                            refine tr_lald I370 t_a373 (by decide) d_Grouping_spread_173 (vp_in_iff.mpr (by omega)) (fun v374 => ?_)
                            refine mv_aload_n d_Grouping_spread_174 rfl rfl ?_
                            obtain ⟨a376, q375, t_a376⟩ := tm_atR I370 t362 (k := 5) rfl
                            refine tr_getK q375 d_Grouping_spread_175 f_Grouping_15_7 ?_
                            refine mv_iload_n d_Grouping_spread_178 rfl rfl ?_
                            refine tr_lald I370 t_a376 (by decide) d_Grouping_spread_179 (vp_in_iff.mpr (by omega)) (fun v377 => ?_)
                            refine mv_lsub d_Grouping_spread_180 ?_
                            refine tr_lastK tm_okF I370 t_a373 (by decide) (Or.inl (by decide)) d_Grouping_spread_181 (vp_in_iff.mpr (by omega)) (fun M378 I379 K380 => ?_)
                            refine mv_aload_n d_Grouping_spread_182 rfl rfl ?_
                            refine tr_getK (k := 10) (K380 _ 7 10 _ (K371 _ 7 10 _ q363)) d_Grouping_spread_183 f_Grouping_31_7 ?_
                            refine mv_iload d_Grouping_spread_186 rfl ?_
                            refine mv_iload d_Grouping_spread_188 rfl ?_
                            refine tr_iastK tm_okF I379 t364 (by decide) (Or.inl (by decide)) d_Grouping_spread_190 (vp_in_iff.mpr (by omega)) (fun M381 I382 K383 => ?_)
                            refine mv_iinc (v := (i5_336 + 1)) (lv' := [(5, .int (i5_336 + 1)), (6, .int v341), (3, .long (if (v12 - v17) < v4 then v4 else (v12 - v17))), (0, .ref o0), (1, .int x1), (2, .int x2)]) d_Grouping_spread_191 rfl rfl (by decide) rfl ?_
                            refine mv_goto (tgt := 89) d_Grouping_spread_194 (by decide) ?_
                            refine mv_locals (lv' := [(5, .int (i5_336 + 1)), (3, .long (if (v12 - v17) < v4 then v4 else (v12 - v17))), (0, .ref o0), (1, .int x1), (2, .int x2)]) (by intro q hq; simp only [List.mem_cons, List.not_mem_nil, or_false] at hq; rcases hq with rfl | rfl | rfl | rfl | rfl <;> rfl) ?_
                            have b384 : (i5_336 + 1).toInt = i5_336.toInt + 1 := mz_addn 1 1 (by decide) (by have := mz_lo i5_336; omega) (by have := mz_hi i5_336; omega)
                            exact (ih336 (i5_336 + 1) T355 M381 n354 I382 t362 (by first | omega | decide) (by omega))
                          · refine mv_aload_n d_Grouping_spread_127 rfl rfl ?_
                            obtain ⟨a386, q385, t_a386⟩ := tm_atR I357 t362 (k := 7) rfl
                            refine tr_getK q385 d_Grouping_spread_128 f_Grouping_22_7 ?_
                            refine mv_iload_n d_Grouping_spread_131 rfl rfl ?_
                            refine mv_iload d_Grouping_spread_132 rfl ?_
                            refine tr_iastK tm_okF I357 t_a386 (by decide) (Or.inl (by decide)) d_Grouping_spread_134 (vp_in_iff.mpr (by omega)) (fun M387 I388 K389 => ?_)
                            refine mv_aload_n d_Grouping_spread_135 rfl rfl ?_
                            refine mv_iload_n d_Grouping_spread_136 rfl rfl ?_
                            refine mv_iconst (v := 1) d_Grouping_spread_137 (by decide) ?_
                            refine mv_iadd d_Grouping_spread_138 ?_
                            refine mv_iload d_Grouping_spread_139 rfl ?_
                            refine mv_iload_n d_Grouping_spread_141 rfl rfl ?_
                            have := mz_hi i5_336
                            have := mz_hi x2
                            refine mv_icmp_neZ (tgt := 151) (a := i5_336.toInt) (b := x2.toInt) d_Grouping_spread_142 (by decide) rfl rfl (fun b390 => ?_) (fun b390 => ?_)
                            · refine mv_iload_n d_Grouping_spread_151 rfl rfl ?_
                              have b391 : (x1 + 1).toInt = x1.toInt + 1 := mz_addn 1 1 (by decide) (by omega) (by omega)
                              obtain ⟨_, b398, -⟩ := I388.1 _ _ t362
                              refine mv_callV (kc' := 0) (ks' := 0) (As := [.int (x1 + 1), .int x2]) (st9 := [.int x2, .int (x1 + 1), .ref o0]) d_Grouping_spread_152 lV_Grouping_77 b398 rfl (tc_Grouping_spread_q0 (d := (d + 1)) (x9 := x9) (o0 := o0) (x1 := (x1 + 1)) (x2 := x2) t362 (by first | omega | decide) I388.start) rfl (Nat.le_of_ble_eq_true rfl) (Nat.le_of_ble_eq_true rfl) (Nat.le_of_ble_eq_true rfl) (hst := rfl) (fun b392r M393 n394 b392 => ?_)
                              obtain ⟨T395, J396, rfl⟩ := b392
                              have I397 := I388.call J396 (tm_sub (by decide)) (Or.inl rfl)
                              have t399 := J396.up t362
                              have q400 := J396.keep t362 (by decide) (K389 _ 7 10 _ q363)
                              have t401 := J396.up t364
                              have q402 := J396.keep t362 (by decide) (K389 _ 7 7 _ q385)
                              have t403 := J396.up t_a386
                              refine mv_aload_n d_Grouping_spread_155 rfl rfl ?_
                              obtain ⟨a405, q404, t_a405⟩ := tm_atR I397 t399 (k := 9) rfl
                              refine tr_getK q404 d_Grouping_spread_156 f_Grouping_28_7 ?_
                              refine mv_iload d_Grouping_spread_159 rfl ?_
                              refine mv_dup2_11 d_Grouping_spread_161 rfl rfl ?_
                              refine tr_iald I397 t_a405 (by decide) d_Grouping_spread_162 (vp_in_iff.mpr (by omega)) (fun v406 => ?_)
                              refine mv_iconst (v := 1) d_Grouping_spread_163 (by decide) ?_
                              refine mv_isub d_Grouping_spread_164 ?_
                              refine tr_iastK tm_okF I397 t_a405 (by decide) (Or.inl (by decide)) d_Grouping_spread_165 (vp_in_iff.mpr (by omega)) (fun M407 I408 K409 => ?_)
                              refine mv_aload_n d_Grouping_spread_166 rfl rfl ?_
                              obtain ⟨a411, q410, t_a411⟩ := tm_atR I408 t399 (k := 11) rfl
                              refine tr_getK q410 d_Grouping_spread_167 f_Grouping_34_7 ?_
                              refine mv_iload d_Grouping_spread_170 rfl ?_
                              refine mv_dup2_11 d_Grouping_spread_172 rfl rfl ?_
                              refine tr_lald I408 t_a411 (by decide) d_Grouping_spread_173 (vp_in_iff.mpr (by omega)) (fun v412 => ?_)
                              refine mv_aload_n d_Grouping_spread_174 rfl rfl ?_
                              obtain ⟨a414, q413, t_a414⟩ := tm_atR I408 t399 (k := 5) rfl
                              refine tr_getK q413 d_Grouping_spread_175 f_Grouping_15_7 ?_
                              refine mv_iload_n d_Grouping_spread_178 rfl rfl ?_
                              refine tr_lald I408 t_a414 (by decide) d_Grouping_spread_179 (vp_in_iff.mpr (by omega)) (fun v415 => ?_)
                              refine mv_lsub d_Grouping_spread_180 ?_
                              refine tr_lastK tm_okF I408 t_a411 (by decide) (Or.inl (by decide)) d_Grouping_spread_181 (vp_in_iff.mpr (by omega)) (fun M416 I417 K418 => ?_)
                              refine mv_aload_n d_Grouping_spread_182 rfl rfl ?_
                              refine tr_getK (k := 10) (K418 _ 7 10 _ (K409 _ 7 10 _ q400)) d_Grouping_spread_183 f_Grouping_31_7 ?_
                              refine mv_iload d_Grouping_spread_186 rfl ?_
                              refine mv_iload d_Grouping_spread_188 rfl ?_
                              refine tr_iastK tm_okF I417 t401 (by decide) (Or.inl (by decide)) d_Grouping_spread_190 (vp_in_iff.mpr (by omega)) (fun M419 I420 K421 => ?_)
                              refine mv_iinc (v := (i5_336 + 1)) (lv' := [(5, .int (i5_336 + 1)), (6, .int v341), (3, .long (if (v12 - v17) < v4 then v4 else (v12 - v17))), (0, .ref o0), (1, .int x1), (2, .int x2)]) d_Grouping_spread_191 rfl rfl (by decide) rfl ?_
                              refine mv_goto (tgt := 89) d_Grouping_spread_194 (by decide) ?_
                              refine mv_locals (lv' := [(5, .int (i5_336 + 1)), (3, .long (if (v12 - v17) < v4 then v4 else (v12 - v17))), (0, .ref o0), (1, .int x1), (2, .int x2)]) (by intro q hq; simp only [List.mem_cons, List.not_mem_nil, or_false] at hq; rcases hq with rfl | rfl | rfl | rfl | rfl <;> rfl) ?_
                              have b422 : (i5_336 + 1).toInt = i5_336.toInt + 1 := mz_addn 1 1 (by decide) (by have := mz_lo i5_336; omega) (by have := mz_hi i5_336; omega)
                              exact (ih336 (i5_336 + 1) T395 M419 n394 I420 t399 (by first | omega | decide) (by omega))
                            · refine mv_iload_n d_Grouping_spread_145 rfl rfl ?_
                              refine mv_iconst (v := 1) d_Grouping_spread_146 (by decide) ?_
                              refine mv_iadd d_Grouping_spread_147 ?_
                              refine mv_goto (tgt := 152) d_Grouping_spread_148 (by decide) ?_
                              have b423 : (x1 + 1).toInt = x1.toInt + 1 := mz_addn 1 1 (by decide) (by omega) (by omega)
                              obtain ⟨_, b430, -⟩ := I388.1 _ _ t362
                              refine mv_callV (kc' := 0) (ks' := 0) (As := [.int (x1 + 1), .int (x2 + 1)]) (st9 := [.int (x2 + 1), .int (x1 + 1), .ref o0]) d_Grouping_spread_152 lV_Grouping_77 b430 rfl (tc_Grouping_spread_q0 (d := (d + 1)) (x9 := x9) (o0 := o0) (x1 := (x1 + 1)) (x2 := (x2 + 1)) t362 (by first | omega | decide) I388.start) rfl (Nat.le_of_ble_eq_true rfl) (Nat.le_of_ble_eq_true rfl) (Nat.le_of_ble_eq_true rfl) (hst := rfl) (fun b424r M425 n426 b424 => ?_)
                              obtain ⟨T427, J428, rfl⟩ := b424
                              have I429 := I388.call J428 (tm_sub (by decide)) (Or.inl rfl)
                              have t431 := J428.up t362
                              have q432 := J428.keep t362 (by decide) (K389 _ 7 10 _ q363)
                              have t433 := J428.up t364
                              have q434 := J428.keep t362 (by decide) (K389 _ 7 7 _ q385)
                              have t435 := J428.up t_a386
                              refine mv_aload_n d_Grouping_spread_155 rfl rfl ?_
                              obtain ⟨a437, q436, t_a437⟩ := tm_atR I429 t431 (k := 9) rfl
                              refine tr_getK q436 d_Grouping_spread_156 f_Grouping_28_7 ?_
                              refine mv_iload d_Grouping_spread_159 rfl ?_
                              refine mv_dup2_11 d_Grouping_spread_161 rfl rfl ?_
                              refine tr_iald I429 t_a437 (by decide) d_Grouping_spread_162 (vp_in_iff.mpr (by omega)) (fun v438 => ?_)
                              refine mv_iconst (v := 1) d_Grouping_spread_163 (by decide) ?_
                              refine mv_isub d_Grouping_spread_164 ?_
                              refine tr_iastK tm_okF I429 t_a437 (by decide) (Or.inl (by decide)) d_Grouping_spread_165 (vp_in_iff.mpr (by omega)) (fun M439 I440 K441 => ?_)
                              refine mv_aload_n d_Grouping_spread_166 rfl rfl ?_
                              obtain ⟨a443, q442, t_a443⟩ := tm_atR I440 t431 (k := 11) rfl
                              refine tr_getK q442 d_Grouping_spread_167 f_Grouping_34_7 ?_
                              refine mv_iload d_Grouping_spread_170 rfl ?_
                              refine mv_dup2_11 d_Grouping_spread_172 rfl rfl ?_
                              refine tr_lald I440 t_a443 (by decide) d_Grouping_spread_173 (vp_in_iff.mpr (by omega)) (fun v444 => ?_)
                              refine mv_aload_n d_Grouping_spread_174 rfl rfl ?_
                              obtain ⟨a446, q445, t_a446⟩ := tm_atR I440 t431 (k := 5) rfl
                              refine tr_getK q445 d_Grouping_spread_175 f_Grouping_15_7 ?_
                              refine mv_iload_n d_Grouping_spread_178 rfl rfl ?_
                              refine tr_lald I440 t_a446 (by decide) d_Grouping_spread_179 (vp_in_iff.mpr (by omega)) (fun v447 => ?_)
                              refine mv_lsub d_Grouping_spread_180 ?_
                              refine tr_lastK tm_okF I440 t_a443 (by decide) (Or.inl (by decide)) d_Grouping_spread_181 (vp_in_iff.mpr (by omega)) (fun M448 I449 K450 => ?_)
                              refine mv_aload_n d_Grouping_spread_182 rfl rfl ?_
                              refine tr_getK (k := 10) (K450 _ 7 10 _ (K441 _ 7 10 _ q432)) d_Grouping_spread_183 f_Grouping_31_7 ?_
                              refine mv_iload d_Grouping_spread_186 rfl ?_
                              refine mv_iload d_Grouping_spread_188 rfl ?_
                              refine tr_iastK tm_okF I449 t433 (by decide) (Or.inl (by decide)) d_Grouping_spread_190 (vp_in_iff.mpr (by omega)) (fun M451 I452 K453 => ?_)
                              refine mv_iinc (v := (i5_336 + 1)) (lv' := [(5, .int (i5_336 + 1)), (6, .int v341), (3, .long (if (v12 - v17) < v4 then v4 else (v12 - v17))), (0, .ref o0), (1, .int x1), (2, .int x2)]) d_Grouping_spread_191 rfl rfl (by decide) rfl ?_
                              refine mv_goto (tgt := 89) d_Grouping_spread_194 (by decide) ?_
                              refine mv_locals (lv' := [(5, .int (i5_336 + 1)), (3, .long (if (v12 - v17) < v4 then v4 else (v12 - v17))), (0, .ref o0), (1, .int x1), (2, .int x2)]) (by intro q hq; simp only [List.mem_cons, List.not_mem_nil, or_false] at hq; rcases hq with rfl | rfl | rfl | rfl | rfl <;> rfl) ?_
                              have b454 : (i5_336 + 1).toInt = i5_336.toInt + 1 := mz_addn 1 1 (by decide) (by have := mz_lo i5_336; omega) (by have := mz_hi i5_336; omega)
                              exact (ih336 (i5_336 + 1) T427 M451 n426 I452 t431 (by first | omega | decide) (by omega))
                  exact mv_less (Nat.zero_le _) (Nat.zero_le _) (L89_336 4294967296 0 T8 M6 n7 I10 t13 (by first | omega | decide) (by show (2147483647 - (0 : Int) : Int) < _; decide))
                · refine mv_aload_n d_Grouping_spread_79 rfl rfl ?_
                  refine mv_lload_n d_Grouping_spread_80 rfl rfl ?_
                  refine mv_iload_n d_Grouping_spread_81 rfl rfl ?_
                  obtain ⟨_, b461, -⟩ := I10.1 _ _ t13
                  refine mv_callV (kc' := 0) (ks' := 0) (As := [.long (if (v12 - v17) < v4 then v4 else (v12 - v17)), .int x2]) (st9 := [.int x2, .long (if (v12 - v17) < v4 then v4 else (v12 - v17)), .ref o0]) d_Grouping_spread_82 lV_Grouping_80 b461 rfl (tc_Grouping_keepAsBest (d := (d + 1)) (x9 := x9) (o0 := o0) (x1 := (if (v12 - v17) < v4 then v4 else (v12 - v17))) (x2 := x2) t13 I10.start) rfl (Nat.le_of_ble_eq_true rfl) (Nat.le_of_ble_eq_true rfl) (Nat.le_of_ble_eq_true rfl) (hst := rfl) (fun b455r M456 n457 b455 => ?_)
                  obtain ⟨T458, J459, rfl⟩ := b455
                  have I460 := I10.call J459 (tm_sub (by decide)) (Or.inl rfl)
                  have t462 := J459.up t13
                  have q463 := J459.keep t13 (by decide) q14
                  have q464 := J459.keep t13 (by decide) q15
                  have t465 := J459.up t_a16
                  have q466 := J459.keep t13 (by decide) q320
                  exact mv_vret d_Grouping_spread_85 rfl ⟨_, I460, rfl⟩
            · exact mv_vret d_Grouping_spread_64 rfl ⟨_, I10, rfl⟩
    · exact mv_vret d_Grouping_spread_10 rfl ⟨_, I0, rfl⟩
def w_Grouping_spread_q2 : List Nat := [700, 703, 757, 758, 759, 760, 761]
theorem tc_Grouping_spread_q2 {g : mj_G} {l : Launch} {d : Nat} {T0 : tm_H} {M0 : mj_M} {n0 x9 : Nat} {o0 : Nat} {x1 : Int32} {x2 : Int32} (h_o0 : T0 o0 = some (0, 7, 0)) (hp : 7 ≤ x1.toInt) (I0 : tm_I tm_FT (tm_in w_Grouping_spread_q2) x9 T0 M0 n0 T0 M0 n0) : mj_Met g l kY_Grouping_spread (d + 3) [.ref o0, .int x1, .int x2] M0 n0 0 0 (tm_Q tm_FT (tm_in w_Grouping_spread_q2) x9 T0 M0 n0 (fun r _ _ => r = none)) := by
  refine mj_enter (by decide) (Nat.le_of_ble_eq_true rfl) ?_
  refine mv_iload_n d_Grouping_spread_0 rfl rfl ?_
  have := mz_hi x1
  refine mv_if_ltZ (tgt := 10) (a := x1.toInt) d_Grouping_spread_1 (by decide) rfl (fun b1 => ?_) (fun b1 => ?_)
  · exact mv_vret d_Grouping_spread_10 rfl ⟨_, I0, rfl⟩
  · refine mv_iload_n d_Grouping_spread_4 rfl rfl ?_
    refine mv_bipush (v := 8) d_Grouping_spread_5 (by decide) ?_
    have := mz_hi x1
    refine mv_icmp_leZ (tgt := 11) (a := x1.toInt) (b := 8) d_Grouping_spread_7 (by decide) rfl (by decide) (fun b2 => ?_) (fun b2 => ?_)
    · refine mv_aload_n d_Grouping_spread_11 rfl rfl ?_
      obtain ⟨v4, q3⟩ := tm_atL I0 h_o0 (k := 13) rfl
      refine tr_getK q3 d_Grouping_spread_12 f_Grouping_74_7 ?_
      refine mv_aload_n d_Grouping_spread_15 rfl rfl ?_
      refine mv_iload_n d_Grouping_spread_16 rfl rfl ?_
      obtain ⟨_, b11, -⟩ := I0.1 _ _ h_o0
      refine mv_callV (kc' := 0) (ks' := 0) (As := [.int x2]) (st9 := [.int x2, .ref o0, .long v4]) d_Grouping_spread_17 lV_Grouping_64 b11 rfl (tc_Grouping_idleOf (d := (d + 1)) (x9 := x9) (o0 := o0) (x1 := x2) h_o0 I0.start) rfl (Nat.le_of_ble_eq_true rfl) (Nat.le_of_ble_eq_true rfl) (Nat.le_of_ble_eq_true rfl) (hst := rfl) (fun b5r M6 n7 b5 => ?_)
      obtain ⟨T8, J9, v12, rfl⟩ := b5
      have I10 := I0.call J9 (tm_sub (by decide)) (Or.inl rfl)
      have t13 := J9.up h_o0
      have q14 := J9.keep h_o0 (by decide) q3
      refine mv_aload_n d_Grouping_spread_20 rfl rfl ?_
      obtain ⟨a16, q15, t_a16⟩ := tm_atR I10 t13 (k := 12) rfl
      refine tr_getK q15 d_Grouping_spread_21 f_Grouping_37_7 ?_
      refine mv_iload_n d_Grouping_spread_24 rfl rfl ?_
      refine tr_lald I10 t_a16 (by decide) d_Grouping_spread_25 (vp_in_iff.mpr (by omega)) (fun v17 => ?_)
      refine mv_lsub d_Grouping_spread_26 ?_
      refine mv_mmax_long (v := (if (v12 - v17) < v4 then v4 else (v12 - v17))) d_Grouping_spread_27 (mj_in1 (List.mem_of_getElem? (i := 1243) (by decide +kernel)) rfl) (Nat.le_of_ble_eq_true rfl) rfl ?_
      refine mv_lstore_n (lv' := [(3, .long (if (v12 - v17) < v4 then v4 else (v12 - v17))), (0, .ref o0), (1, .int x1), (2, .int x2)]) d_Grouping_spread_30 rfl (by decide) rfl ?_
      refine mv_aload_n d_Grouping_spread_31 rfl rfl ?_
      obtain ⟨v19, q18⟩ := tm_atI I10 t13 (k := 3) rfl
      refine tr_getK q18 d_Grouping_spread_32 f_Grouping_47_7 ?_
      have := mz_hi v19
      refine mv_if_eqZ (tgt := 65) (a := v19.toInt) d_Grouping_spread_35 (by decide) rfl (fun b20 => ?_) (fun b20 => ?_)
      · refine mv_iload_n d_Grouping_spread_65 rfl rfl ?_
        refine mv_aload_n d_Grouping_spread_66 rfl rfl ?_
        obtain ⟨v22, q21⟩ := tm_atI I10 t13 (k := 2) rfl
        refine tr_getK q21 d_Grouping_spread_67 f_Grouping_44_7 ?_
        have := mz_hi x1
        have := mz_hi v22
        refine mv_icmp_geZ (tgt := 79) (a := x1.toInt) (b := v22.toInt) d_Grouping_spread_70 (by decide) rfl rfl (fun b23 => ?_) (fun b23 => ?_)
        · refine mv_aload_n d_Grouping_spread_79 rfl rfl ?_
          refine mv_lload_n d_Grouping_spread_80 rfl rfl ?_
          refine mv_iload_n d_Grouping_spread_81 rfl rfl ?_
          obtain ⟨_, b30, -⟩ := I10.1 _ _ t13
          refine mv_callV (kc' := 0) (ks' := 0) (As := [.long (if (v12 - v17) < v4 then v4 else (v12 - v17)), .int x2]) (st9 := [.int x2, .long (if (v12 - v17) < v4 then v4 else (v12 - v17)), .ref o0]) d_Grouping_spread_82 lV_Grouping_80 b30 rfl (tc_Grouping_keepAsBest (d := (d + 2)) (x9 := x9) (o0 := o0) (x1 := (if (v12 - v17) < v4 then v4 else (v12 - v17))) (x2 := x2) t13 I10.start) rfl (Nat.le_of_ble_eq_true rfl) (Nat.le_of_ble_eq_true rfl) (Nat.le_of_ble_eq_true rfl) (hst := rfl) (fun b24r M25 n26 b24 => ?_)
          obtain ⟨T27, J28, rfl⟩ := b24
          have I29 := I10.call J28 (tm_sub (by decide)) (Or.inl rfl)
          have t31 := J28.up t13
          have q32 := J28.keep t13 (by decide) q14
          have q33 := J28.keep t13 (by decide) q15
          have t34 := J28.up t_a16
          have q35 := J28.keep t13 (by decide) q21
          exact mv_vret d_Grouping_spread_85 rfl ⟨_, I29, rfl⟩
        · refine mv_iload_n d_Grouping_spread_73 rfl rfl ?_
          refine mv_bipush (v := 8) d_Grouping_spread_74 (by decide) ?_
          have := mz_hi x1
          refine mv_icmp_neZ (tgt := 86) (a := x1.toInt) (b := 8) d_Grouping_spread_76 (by decide) rfl (by decide) (fun b36 => ?_) (fun b36 => ?_)
          · refine mv_iconst (v := 0) d_Grouping_spread_86 (by decide) ?_
            refine mv_istore (lv' := [(5, .int 0), (3, .long (if (v12 - v17) < v4 then v4 else (v12 - v17))), (0, .ref o0), (1, .int x1), (2, .int x2)]) d_Grouping_spread_87 (by decide) rfl ?_
            have L89_37 : ∀ (k : Nat) (i5_37 : Int32) (T_37 : tm_H) (M_37 : mj_M) (n_37 : Nat), tm_I tm_FT (tm_in w_Grouping_spread_q2) x9 T0 M0 n0 T_37 M_37 n_37 → T_37 o0 = some (0, 7, 0) → 0 ≤ i5_37.toInt → 2147483647 - i5_37.toInt < (k : Int) → mj_V g l kY_Grouping_spread (d + 3) 89 [(5, .int i5_37), (3, .long (if (v12 - v17) < v4 then v4 else (v12 - v17))), (0, .ref o0), (1, .int x1), (2, .int x2)] [] M_37 n_37 0 0 (tm_Q tm_FT (tm_in w_Grouping_spread_q2) x9 T0 M0 n0 (fun r _ _ => r = none)) := by
              intro k37
              induction k37 with
              | zero =>
                intro i5_37 T_37 M_37 n_37 I_37 h_q0_37 iv0_37 hk37
                have := mz_hi i5_37
                omega
              | succ k37 ih37 =>
                intro i5_37 T_37 M_37 n_37 I_37 h_q0_37 iv0_37 hk37
                refine mv_iload d_Grouping_spread_89 rfl ?_
                refine mv_iload_n d_Grouping_spread_91 rfl rfl ?_
                have := mz_hi i5_37
                have := mz_hi x2
                refine mv_icmp_gtZ (tgt := 197) (a := i5_37.toInt) (b := x2.toInt) d_Grouping_spread_92 (by decide) rfl rfl (fun b38 => ?_) (fun b38 => ?_)
                · exact mv_vret d_Grouping_spread_197 rfl ⟨_, I_37, rfl⟩
                · refine mv_iload d_Grouping_spread_95 rfl ?_
                  refine mv_bipush (v := 8) d_Grouping_spread_97 (by decide) ?_
                  have := mz_hi i5_37
                  refine mv_icmp_geZ (tgt := 197) (a := i5_37.toInt) (b := 8) d_Grouping_spread_99 (by decide) rfl (by decide) (fun b39 => ?_) (fun b39 => ?_)
                  · exact mv_vret d_Grouping_spread_197 rfl ⟨_, I_37, rfl⟩
                  · refine mv_aload_n d_Grouping_spread_102 rfl rfl ?_
                    obtain ⟨a41, q40, t_a41⟩ := tm_atR I_37 h_q0_37 (k := 10) rfl
                    refine tr_getK q40 d_Grouping_spread_103 f_Grouping_31_7 ?_
                    refine mv_iload d_Grouping_spread_106 rfl ?_
                    refine tr_iald I_37 t_a41 (by decide) d_Grouping_spread_108 (vp_in_iff.mpr (by omega)) (fun v42 => ?_)
                    refine mv_istore (lv' := [(6, .int v42), (5, .int i5_37), (3, .long (if (v12 - v17) < v4 then v4 else (v12 - v17))), (0, .ref o0), (1, .int x1), (2, .int x2)]) d_Grouping_spread_109 (by decide) rfl ?_
                    refine mv_aload_n d_Grouping_spread_111 rfl rfl ?_
                    refine mv_iload_n d_Grouping_spread_112 rfl rfl ?_
                    refine mv_iload d_Grouping_spread_113 rfl ?_
                    obtain ⟨_, b49, -⟩ := I_37.1 _ _ h_q0_37
                    refine mv_callV (kc' := 0) (ks' := 0) (As := [.int x1, .int i5_37]) (st9 := [.int i5_37, .int x1, .ref o0]) d_Grouping_spread_115 lV_Grouping_56 b49 rfl (tc_Grouping_put (d := (d + 2)) (x9 := x9) (o0 := o0) (x1 := x1) (x2 := i5_37) h_q0_37 I_37.start) rfl (Nat.le_of_ble_eq_true rfl) (Nat.le_of_ble_eq_true rfl) (Nat.le_of_ble_eq_true rfl) (hst := rfl) (fun b43r M44 n45 b43 => ?_)
                    obtain ⟨T46, J47, rfl⟩ := b43
                    have I48 := I_37.call J47 (tm_sub (by decide)) (Or.inl rfl)
                    have t50 := J47.up h_q0_37
                    have q51 := J47.keep h_q0_37 (by decide) q40
                    have t52 := J47.up t_a41
                    refine mv_aload_n d_Grouping_spread_118 rfl rfl ?_
                    refine mv_iload d_Grouping_spread_119 rfl ?_
                    obtain ⟨_, b59, -⟩ := I48.1 _ _ t50
                    refine mv_callV (kc' := 0) (ks' := 0) (As := [.int i5_37]) (st9 := [.int i5_37, .ref o0]) d_Grouping_spread_121 lV_Grouping_60 b59 rfl (tc_Grouping_holdsTogether (d := (d + 1)) (x9 := x9) (o0 := o0) (x1 := i5_37) t50 I48.start) rfl (Nat.le_of_ble_eq_true rfl) (Nat.le_of_ble_eq_true rfl) (Nat.le_of_ble_eq_true rfl) (hst := rfl) (fun b53r M54 n55 b53 => ?_)
                    obtain ⟨T56, J57, v60, rfl, b61, b62⟩ := b53
                    have I58 := I48.call J57 (tm_sub (by decide)) (Or.inl rfl)
                    have t63 := J57.up t50
                    have q64 := J57.keep t50 (by decide) q51
                    have t65 := J57.up t52
                    have := mz_hi v60
                    refine mv_if_eqZ (tgt := 155) (a := v60.toInt) d_Grouping_spread_124 (by decide) rfl (fun b66 => ?_) (fun b66 => ?_)
                    · refine mv_aload_n d_Grouping_spread_155 rfl rfl ?_
                      obtain ⟨a68, q67, t_a68⟩ := tm_atR I58 t63 (k := 9) rfl
                      refine tr_getK q67 d_Grouping_spread_156 f_Grouping_28_7 ?_
                      refine mv_iload d_Grouping_spread_159 rfl ?_
                      refine mv_dup2_11 d_Grouping_spread_161 rfl rfl ?_
                      refine tr_iald I58 t_a68 (by decide) d_Grouping_spread_162 (vp_in_iff.mpr (by omega)) (fun v69 => ?_)
                      refine mv_iconst (v := 1) d_Grouping_spread_163 (by decide) ?_
                      refine mv_isub d_Grouping_spread_164 ?_
                      refine tr_iastK tm_okF I58 t_a68 (by decide) (Or.inl (by decide)) d_Grouping_spread_165 (vp_in_iff.mpr (by omega)) (fun M70 I71 K72 => ?_)
                      refine mv_aload_n d_Grouping_spread_166 rfl rfl ?_
                      obtain ⟨a74, q73, t_a74⟩ := tm_atR I71 t63 (k := 11) rfl
                      refine tr_getK q73 d_Grouping_spread_167 f_Grouping_34_7 ?_
                      refine mv_iload d_Grouping_spread_170 rfl ?_
                      refine mv_dup2_11 d_Grouping_spread_172 rfl rfl ?_
                      refine tr_lald I71 t_a74 (by decide) d_Grouping_spread_173 (vp_in_iff.mpr (by omega)) (fun v75 => ?_)
                      refine mv_aload_n d_Grouping_spread_174 rfl rfl ?_
                      obtain ⟨a77, q76, t_a77⟩ := tm_atR I71 t63 (k := 5) rfl
                      refine tr_getK q76 d_Grouping_spread_175 f_Grouping_15_7 ?_
                      refine mv_iload_n d_Grouping_spread_178 rfl rfl ?_
                      refine tr_lald I71 t_a77 (by decide) d_Grouping_spread_179 (vp_in_iff.mpr (by omega)) (fun v78 => ?_)
                      refine mv_lsub d_Grouping_spread_180 ?_
                      refine tr_lastK tm_okF I71 t_a74 (by decide) (Or.inl (by decide)) d_Grouping_spread_181 (vp_in_iff.mpr (by omega)) (fun M79 I80 K81 => ?_)
                      refine mv_aload_n d_Grouping_spread_182 rfl rfl ?_
                      refine tr_getK (k := 10) (K81 _ 7 10 _ (K72 _ 7 10 _ q64)) d_Grouping_spread_183 f_Grouping_31_7 ?_
                      refine mv_iload d_Grouping_spread_186 rfl ?_
                      refine mv_iload d_Grouping_spread_188 rfl ?_
                      refine tr_iastK tm_okF I80 t65 (by decide) (Or.inl (by decide)) d_Grouping_spread_190 (vp_in_iff.mpr (by omega)) (fun M82 I83 K84 => ?_)
                      refine mv_iinc (v := (i5_37 + 1)) (lv' := [(5, .int (i5_37 + 1)), (6, .int v42), (3, .long (if (v12 - v17) < v4 then v4 else (v12 - v17))), (0, .ref o0), (1, .int x1), (2, .int x2)]) d_Grouping_spread_191 rfl rfl (by decide) rfl ?_
                      refine mv_goto (tgt := 89) d_Grouping_spread_194 (by decide) ?_
                      refine mv_locals (lv' := [(5, .int (i5_37 + 1)), (3, .long (if (v12 - v17) < v4 then v4 else (v12 - v17))), (0, .ref o0), (1, .int x1), (2, .int x2)]) (by intro q hq; simp only [List.mem_cons, List.not_mem_nil, or_false] at hq; rcases hq with rfl | rfl | rfl | rfl | rfl <;> rfl) ?_
                      have b85 : (i5_37 + 1).toInt = i5_37.toInt + 1 := mz_addn 1 1 (by decide) (by have := mz_lo i5_37; omega) (by have := mz_hi i5_37; omega)
                      exact (ih37 (i5_37 + 1) T56 M82 n55 I83 t63 (by first | omega | decide) (by omega))
                    · refine mv_aload_n d_Grouping_spread_127 rfl rfl ?_
                      obtain ⟨a87, q86, t_a87⟩ := tm_atR I58 t63 (k := 7) rfl
                      refine tr_getK q86 d_Grouping_spread_128 f_Grouping_22_7 ?_
                      refine mv_iload_n d_Grouping_spread_131 rfl rfl ?_
                      refine mv_iload d_Grouping_spread_132 rfl ?_
                      refine tr_iastK tm_okF I58 t_a87 (by decide) (Or.inl (by decide)) d_Grouping_spread_134 (vp_in_iff.mpr (by omega)) (fun M88 I89 K90 => ?_)
                      refine mv_aload_n d_Grouping_spread_135 rfl rfl ?_
                      refine mv_iload_n d_Grouping_spread_136 rfl rfl ?_
                      refine mv_iconst (v := 1) d_Grouping_spread_137 (by decide) ?_
                      refine mv_iadd d_Grouping_spread_138 ?_
                      refine mv_iload d_Grouping_spread_139 rfl ?_
                      refine mv_iload_n d_Grouping_spread_141 rfl rfl ?_
                      have := mz_hi i5_37
                      have := mz_hi x2
                      refine mv_icmp_neZ (tgt := 151) (a := i5_37.toInt) (b := x2.toInt) d_Grouping_spread_142 (by decide) rfl rfl (fun b91 => ?_) (fun b91 => ?_)
                      · refine mv_iload_n d_Grouping_spread_151 rfl rfl ?_
                        have b92 : (x1 + 1).toInt = x1.toInt + 1 := mz_addn 1 1 (by decide) (by omega) (by omega)
                        obtain ⟨_, b99, -⟩ := I89.1 _ _ t63
                        refine mv_callV (kc' := 0) (ks' := 0) (As := [.int (x1 + 1), .int x2]) (st9 := [.int x2, .int (x1 + 1), .ref o0]) d_Grouping_spread_152 lV_Grouping_77 b99 rfl (tc_Grouping_spread_q1 (d := d) (x9 := x9) (o0 := o0) (x1 := (x1 + 1)) (x2 := x2) t63 (by first | omega | decide) I89.start) rfl (Nat.le_of_ble_eq_true rfl) (Nat.le_of_ble_eq_true rfl) (Nat.le_of_ble_eq_true rfl) (hst := rfl) (fun b93r M94 n95 b93 => ?_)
                        obtain ⟨T96, J97, rfl⟩ := b93
                        have I98 := I89.call J97 (tm_sub (by decide)) (Or.inl rfl)
                        have t100 := J97.up t63
                        have q101 := J97.keep t63 (by decide) (K90 _ 7 10 _ q64)
                        have t102 := J97.up t65
                        have q103 := J97.keep t63 (by decide) (K90 _ 7 7 _ q86)
                        have t104 := J97.up t_a87
                        refine mv_aload_n d_Grouping_spread_155 rfl rfl ?_
                        obtain ⟨a106, q105, t_a106⟩ := tm_atR I98 t100 (k := 9) rfl
                        refine tr_getK q105 d_Grouping_spread_156 f_Grouping_28_7 ?_
                        refine mv_iload d_Grouping_spread_159 rfl ?_
                        refine mv_dup2_11 d_Grouping_spread_161 rfl rfl ?_
                        refine tr_iald I98 t_a106 (by decide) d_Grouping_spread_162 (vp_in_iff.mpr (by omega)) (fun v107 => ?_)
                        refine mv_iconst (v := 1) d_Grouping_spread_163 (by decide) ?_
                        refine mv_isub d_Grouping_spread_164 ?_
                        refine tr_iastK tm_okF I98 t_a106 (by decide) (Or.inl (by decide)) d_Grouping_spread_165 (vp_in_iff.mpr (by omega)) (fun M108 I109 K110 => ?_)
                        refine mv_aload_n d_Grouping_spread_166 rfl rfl ?_
                        obtain ⟨a112, q111, t_a112⟩ := tm_atR I109 t100 (k := 11) rfl
                        refine tr_getK q111 d_Grouping_spread_167 f_Grouping_34_7 ?_
                        refine mv_iload d_Grouping_spread_170 rfl ?_
                        refine mv_dup2_11 d_Grouping_spread_172 rfl rfl ?_
                        refine tr_lald I109 t_a112 (by decide) d_Grouping_spread_173 (vp_in_iff.mpr (by omega)) (fun v113 => ?_)
                        refine mv_aload_n d_Grouping_spread_174 rfl rfl ?_
                        obtain ⟨a115, q114, t_a115⟩ := tm_atR I109 t100 (k := 5) rfl
                        refine tr_getK q114 d_Grouping_spread_175 f_Grouping_15_7 ?_
                        refine mv_iload_n d_Grouping_spread_178 rfl rfl ?_
                        refine tr_lald I109 t_a115 (by decide) d_Grouping_spread_179 (vp_in_iff.mpr (by omega)) (fun v116 => ?_)
                        refine mv_lsub d_Grouping_spread_180 ?_
                        refine tr_lastK tm_okF I109 t_a112 (by decide) (Or.inl (by decide)) d_Grouping_spread_181 (vp_in_iff.mpr (by omega)) (fun M117 I118 K119 => ?_)
                        refine mv_aload_n d_Grouping_spread_182 rfl rfl ?_
                        refine tr_getK (k := 10) (K119 _ 7 10 _ (K110 _ 7 10 _ q101)) d_Grouping_spread_183 f_Grouping_31_7 ?_
                        refine mv_iload d_Grouping_spread_186 rfl ?_
                        refine mv_iload d_Grouping_spread_188 rfl ?_
                        refine tr_iastK tm_okF I118 t102 (by decide) (Or.inl (by decide)) d_Grouping_spread_190 (vp_in_iff.mpr (by omega)) (fun M120 I121 K122 => ?_)
                        refine mv_iinc (v := (i5_37 + 1)) (lv' := [(5, .int (i5_37 + 1)), (6, .int v42), (3, .long (if (v12 - v17) < v4 then v4 else (v12 - v17))), (0, .ref o0), (1, .int x1), (2, .int x2)]) d_Grouping_spread_191 rfl rfl (by decide) rfl ?_
                        refine mv_goto (tgt := 89) d_Grouping_spread_194 (by decide) ?_
                        refine mv_locals (lv' := [(5, .int (i5_37 + 1)), (3, .long (if (v12 - v17) < v4 then v4 else (v12 - v17))), (0, .ref o0), (1, .int x1), (2, .int x2)]) (by intro q hq; simp only [List.mem_cons, List.not_mem_nil, or_false] at hq; rcases hq with rfl | rfl | rfl | rfl | rfl <;> rfl) ?_
                        have b123 : (i5_37 + 1).toInt = i5_37.toInt + 1 := mz_addn 1 1 (by decide) (by have := mz_lo i5_37; omega) (by have := mz_hi i5_37; omega)
                        exact (ih37 (i5_37 + 1) T96 M120 n95 I121 t100 (by first | omega | decide) (by omega))
                      · refine mv_iload_n d_Grouping_spread_145 rfl rfl ?_
                        refine mv_iconst (v := 1) d_Grouping_spread_146 (by decide) ?_
                        refine mv_iadd d_Grouping_spread_147 ?_
                        refine mv_goto (tgt := 152) d_Grouping_spread_148 (by decide) ?_
                        have b124 : (x1 + 1).toInt = x1.toInt + 1 := mz_addn 1 1 (by decide) (by omega) (by omega)
                        obtain ⟨_, b131, -⟩ := I89.1 _ _ t63
                        refine mv_callV (kc' := 0) (ks' := 0) (As := [.int (x1 + 1), .int (x2 + 1)]) (st9 := [.int (x2 + 1), .int (x1 + 1), .ref o0]) d_Grouping_spread_152 lV_Grouping_77 b131 rfl (tc_Grouping_spread_q1 (d := d) (x9 := x9) (o0 := o0) (x1 := (x1 + 1)) (x2 := (x2 + 1)) t63 (by first | omega | decide) I89.start) rfl (Nat.le_of_ble_eq_true rfl) (Nat.le_of_ble_eq_true rfl) (Nat.le_of_ble_eq_true rfl) (hst := rfl) (fun b125r M126 n127 b125 => ?_)
                        obtain ⟨T128, J129, rfl⟩ := b125
                        have I130 := I89.call J129 (tm_sub (by decide)) (Or.inl rfl)
                        have t132 := J129.up t63
                        have q133 := J129.keep t63 (by decide) (K90 _ 7 10 _ q64)
                        have t134 := J129.up t65
                        have q135 := J129.keep t63 (by decide) (K90 _ 7 7 _ q86)
                        have t136 := J129.up t_a87
                        refine mv_aload_n d_Grouping_spread_155 rfl rfl ?_
                        obtain ⟨a138, q137, t_a138⟩ := tm_atR I130 t132 (k := 9) rfl
                        refine tr_getK q137 d_Grouping_spread_156 f_Grouping_28_7 ?_
                        refine mv_iload d_Grouping_spread_159 rfl ?_
                        refine mv_dup2_11 d_Grouping_spread_161 rfl rfl ?_
                        refine tr_iald I130 t_a138 (by decide) d_Grouping_spread_162 (vp_in_iff.mpr (by omega)) (fun v139 => ?_)
                        refine mv_iconst (v := 1) d_Grouping_spread_163 (by decide) ?_
                        refine mv_isub d_Grouping_spread_164 ?_
                        refine tr_iastK tm_okF I130 t_a138 (by decide) (Or.inl (by decide)) d_Grouping_spread_165 (vp_in_iff.mpr (by omega)) (fun M140 I141 K142 => ?_)
                        refine mv_aload_n d_Grouping_spread_166 rfl rfl ?_
                        obtain ⟨a144, q143, t_a144⟩ := tm_atR I141 t132 (k := 11) rfl
                        refine tr_getK q143 d_Grouping_spread_167 f_Grouping_34_7 ?_
                        refine mv_iload d_Grouping_spread_170 rfl ?_
                        refine mv_dup2_11 d_Grouping_spread_172 rfl rfl ?_
                        refine tr_lald I141 t_a144 (by decide) d_Grouping_spread_173 (vp_in_iff.mpr (by omega)) (fun v145 => ?_)
                        refine mv_aload_n d_Grouping_spread_174 rfl rfl ?_
                        obtain ⟨a147, q146, t_a147⟩ := tm_atR I141 t132 (k := 5) rfl
                        refine tr_getK q146 d_Grouping_spread_175 f_Grouping_15_7 ?_
                        refine mv_iload_n d_Grouping_spread_178 rfl rfl ?_
                        refine tr_lald I141 t_a147 (by decide) d_Grouping_spread_179 (vp_in_iff.mpr (by omega)) (fun v148 => ?_)
                        refine mv_lsub d_Grouping_spread_180 ?_
                        refine tr_lastK tm_okF I141 t_a144 (by decide) (Or.inl (by decide)) d_Grouping_spread_181 (vp_in_iff.mpr (by omega)) (fun M149 I150 K151 => ?_)
                        refine mv_aload_n d_Grouping_spread_182 rfl rfl ?_
                        refine tr_getK (k := 10) (K151 _ 7 10 _ (K142 _ 7 10 _ q133)) d_Grouping_spread_183 f_Grouping_31_7 ?_
                        refine mv_iload d_Grouping_spread_186 rfl ?_
                        refine mv_iload d_Grouping_spread_188 rfl ?_
                        refine tr_iastK tm_okF I150 t134 (by decide) (Or.inl (by decide)) d_Grouping_spread_190 (vp_in_iff.mpr (by omega)) (fun M152 I153 K154 => ?_)
                        refine mv_iinc (v := (i5_37 + 1)) (lv' := [(5, .int (i5_37 + 1)), (6, .int v42), (3, .long (if (v12 - v17) < v4 then v4 else (v12 - v17))), (0, .ref o0), (1, .int x1), (2, .int x2)]) d_Grouping_spread_191 rfl rfl (by decide) rfl ?_
                        refine mv_goto (tgt := 89) d_Grouping_spread_194 (by decide) ?_
                        refine mv_locals (lv' := [(5, .int (i5_37 + 1)), (3, .long (if (v12 - v17) < v4 then v4 else (v12 - v17))), (0, .ref o0), (1, .int x1), (2, .int x2)]) (by intro q hq; simp only [List.mem_cons, List.not_mem_nil, or_false] at hq; rcases hq with rfl | rfl | rfl | rfl | rfl <;> rfl) ?_
                        have b155 : (i5_37 + 1).toInt = i5_37.toInt + 1 := mz_addn 1 1 (by decide) (by have := mz_lo i5_37; omega) (by have := mz_hi i5_37; omega)
                        exact (ih37 (i5_37 + 1) T128 M152 n127 I153 t132 (by first | omega | decide) (by omega))
            exact mv_less (Nat.zero_le _) (Nat.zero_le _) (L89_37 4294967296 0 T8 M6 n7 I10 t13 (by first | omega | decide) (by show (2147483647 - (0 : Int) : Int) < _; decide))
          · refine mv_aload_n d_Grouping_spread_79 rfl rfl ?_
            refine mv_lload_n d_Grouping_spread_80 rfl rfl ?_
            refine mv_iload_n d_Grouping_spread_81 rfl rfl ?_
            obtain ⟨_, b162, -⟩ := I10.1 _ _ t13
            refine mv_callV (kc' := 0) (ks' := 0) (As := [.long (if (v12 - v17) < v4 then v4 else (v12 - v17)), .int x2]) (st9 := [.int x2, .long (if (v12 - v17) < v4 then v4 else (v12 - v17)), .ref o0]) d_Grouping_spread_82 lV_Grouping_80 b162 rfl (tc_Grouping_keepAsBest (d := (d + 2)) (x9 := x9) (o0 := o0) (x1 := (if (v12 - v17) < v4 then v4 else (v12 - v17))) (x2 := x2) t13 I10.start) rfl (Nat.le_of_ble_eq_true rfl) (Nat.le_of_ble_eq_true rfl) (Nat.le_of_ble_eq_true rfl) (hst := rfl) (fun b156r M157 n158 b156 => ?_)
            obtain ⟨T159, J160, rfl⟩ := b156
            have I161 := I10.call J160 (tm_sub (by decide)) (Or.inl rfl)
            have t163 := J160.up t13
            have q164 := J160.keep t13 (by decide) q14
            have q165 := J160.keep t13 (by decide) q15
            have t166 := J160.up t_a16
            have q167 := J160.keep t13 (by decide) q21
            exact mv_vret d_Grouping_spread_85 rfl ⟨_, I161, rfl⟩
      · refine mv_lload_n d_Grouping_spread_38 rfl rfl ?_
        refine mv_aload_n d_Grouping_spread_39 rfl rfl ?_
        obtain ⟨v169, q168⟩ := tm_atL I10 t13 (k := 0) rfl
        refine tr_getK q168 d_Grouping_spread_40 f_Grouping_50_7 ?_
        refine mv_lgtZ (tgt := 64) (a := (if (v12 - v17) < v4 then v4 else (v12 - v17)).toInt) (b := v169.toInt) d_Grouping_spread_43 d_Grouping_spread_44 (by decide) rfl rfl (fun b170 => ?_) (fun b170 => ?_)
        · exact mv_vret d_Grouping_spread_64 rfl ⟨_, I10, rfl⟩
        · refine mv_lload_n d_Grouping_spread_47 rfl rfl ?_
          refine mv_aload_n d_Grouping_spread_48 rfl rfl ?_
          refine tr_getK (k := 0) q168 d_Grouping_spread_49 f_Grouping_50_7 ?_
          refine mv_lneZ (tgt := 65) (a := (if (v12 - v17) < v4 then v4 else (v12 - v17)).toInt) (b := v169.toInt) d_Grouping_spread_52 d_Grouping_spread_53 (by decide) rfl rfl (fun b171 => ?_) (fun b171 => ?_)
          · refine mv_iload_n d_Grouping_spread_65 rfl rfl ?_
            refine mv_aload_n d_Grouping_spread_66 rfl rfl ?_
            obtain ⟨v173, q172⟩ := tm_atI I10 t13 (k := 2) rfl
            refine tr_getK q172 d_Grouping_spread_67 f_Grouping_44_7 ?_
            have := mz_hi x1
            have := mz_hi v173
            refine mv_icmp_geZ (tgt := 79) (a := x1.toInt) (b := v173.toInt) d_Grouping_spread_70 (by decide) rfl rfl (fun b174 => ?_) (fun b174 => ?_)
            · refine mv_aload_n d_Grouping_spread_79 rfl rfl ?_
              refine mv_lload_n d_Grouping_spread_80 rfl rfl ?_
              refine mv_iload_n d_Grouping_spread_81 rfl rfl ?_
              obtain ⟨_, b181, -⟩ := I10.1 _ _ t13
              refine mv_callV (kc' := 0) (ks' := 0) (As := [.long (if (v12 - v17) < v4 then v4 else (v12 - v17)), .int x2]) (st9 := [.int x2, .long (if (v12 - v17) < v4 then v4 else (v12 - v17)), .ref o0]) d_Grouping_spread_82 lV_Grouping_80 b181 rfl (tc_Grouping_keepAsBest (d := (d + 2)) (x9 := x9) (o0 := o0) (x1 := (if (v12 - v17) < v4 then v4 else (v12 - v17))) (x2 := x2) t13 I10.start) rfl (Nat.le_of_ble_eq_true rfl) (Nat.le_of_ble_eq_true rfl) (Nat.le_of_ble_eq_true rfl) (hst := rfl) (fun b175r M176 n177 b175 => ?_)
              obtain ⟨T178, J179, rfl⟩ := b175
              have I180 := I10.call J179 (tm_sub (by decide)) (Or.inl rfl)
              have t182 := J179.up t13
              have q183 := J179.keep t13 (by decide) q14
              have q184 := J179.keep t13 (by decide) q15
              have t185 := J179.up t_a16
              have q186 := J179.keep t13 (by decide) q172
              exact mv_vret d_Grouping_spread_85 rfl ⟨_, I180, rfl⟩
            · refine mv_iload_n d_Grouping_spread_73 rfl rfl ?_
              refine mv_bipush (v := 8) d_Grouping_spread_74 (by decide) ?_
              have := mz_hi x1
              refine mv_icmp_neZ (tgt := 86) (a := x1.toInt) (b := 8) d_Grouping_spread_76 (by decide) rfl (by decide) (fun b187 => ?_) (fun b187 => ?_)
              · refine mv_iconst (v := 0) d_Grouping_spread_86 (by decide) ?_
                refine mv_istore (lv' := [(5, .int 0), (3, .long (if (v12 - v17) < v4 then v4 else (v12 - v17))), (0, .ref o0), (1, .int x1), (2, .int x2)]) d_Grouping_spread_87 (by decide) rfl ?_
                have L89_188 : ∀ (k : Nat) (i5_188 : Int32) (T_188 : tm_H) (M_188 : mj_M) (n_188 : Nat), tm_I tm_FT (tm_in w_Grouping_spread_q2) x9 T0 M0 n0 T_188 M_188 n_188 → T_188 o0 = some (0, 7, 0) → 0 ≤ i5_188.toInt → 2147483647 - i5_188.toInt < (k : Int) → mj_V g l kY_Grouping_spread (d + 3) 89 [(5, .int i5_188), (3, .long (if (v12 - v17) < v4 then v4 else (v12 - v17))), (0, .ref o0), (1, .int x1), (2, .int x2)] [] M_188 n_188 0 0 (tm_Q tm_FT (tm_in w_Grouping_spread_q2) x9 T0 M0 n0 (fun r _ _ => r = none)) := by
                  intro k188
                  induction k188 with
                  | zero =>
                    intro i5_188 T_188 M_188 n_188 I_188 h_q0_188 iv0_188 hk188
                    have := mz_hi i5_188
                    omega
                  | succ k188 ih188 =>
                    intro i5_188 T_188 M_188 n_188 I_188 h_q0_188 iv0_188 hk188
                    refine mv_iload d_Grouping_spread_89 rfl ?_
                    refine mv_iload_n d_Grouping_spread_91 rfl rfl ?_
                    have := mz_hi i5_188
                    have := mz_hi x2
                    refine mv_icmp_gtZ (tgt := 197) (a := i5_188.toInt) (b := x2.toInt) d_Grouping_spread_92 (by decide) rfl rfl (fun b189 => ?_) (fun b189 => ?_)
                    · exact mv_vret d_Grouping_spread_197 rfl ⟨_, I_188, rfl⟩
                    · refine mv_iload d_Grouping_spread_95 rfl ?_
                      refine mv_bipush (v := 8) d_Grouping_spread_97 (by decide) ?_
                      have := mz_hi i5_188
                      refine mv_icmp_geZ (tgt := 197) (a := i5_188.toInt) (b := 8) d_Grouping_spread_99 (by decide) rfl (by decide) (fun b190 => ?_) (fun b190 => ?_)
                      · exact mv_vret d_Grouping_spread_197 rfl ⟨_, I_188, rfl⟩
                      · refine mv_aload_n d_Grouping_spread_102 rfl rfl ?_
                        obtain ⟨a192, q191, t_a192⟩ := tm_atR I_188 h_q0_188 (k := 10) rfl
                        refine tr_getK q191 d_Grouping_spread_103 f_Grouping_31_7 ?_
                        refine mv_iload d_Grouping_spread_106 rfl ?_
                        refine tr_iald I_188 t_a192 (by decide) d_Grouping_spread_108 (vp_in_iff.mpr (by omega)) (fun v193 => ?_)
                        refine mv_istore (lv' := [(6, .int v193), (5, .int i5_188), (3, .long (if (v12 - v17) < v4 then v4 else (v12 - v17))), (0, .ref o0), (1, .int x1), (2, .int x2)]) d_Grouping_spread_109 (by decide) rfl ?_
                        refine mv_aload_n d_Grouping_spread_111 rfl rfl ?_
                        refine mv_iload_n d_Grouping_spread_112 rfl rfl ?_
                        refine mv_iload d_Grouping_spread_113 rfl ?_
                        obtain ⟨_, b200, -⟩ := I_188.1 _ _ h_q0_188
                        refine mv_callV (kc' := 0) (ks' := 0) (As := [.int x1, .int i5_188]) (st9 := [.int i5_188, .int x1, .ref o0]) d_Grouping_spread_115 lV_Grouping_56 b200 rfl (tc_Grouping_put (d := (d + 2)) (x9 := x9) (o0 := o0) (x1 := x1) (x2 := i5_188) h_q0_188 I_188.start) rfl (Nat.le_of_ble_eq_true rfl) (Nat.le_of_ble_eq_true rfl) (Nat.le_of_ble_eq_true rfl) (hst := rfl) (fun b194r M195 n196 b194 => ?_)
                        obtain ⟨T197, J198, rfl⟩ := b194
                        have I199 := I_188.call J198 (tm_sub (by decide)) (Or.inl rfl)
                        have t201 := J198.up h_q0_188
                        have q202 := J198.keep h_q0_188 (by decide) q191
                        have t203 := J198.up t_a192
                        refine mv_aload_n d_Grouping_spread_118 rfl rfl ?_
                        refine mv_iload d_Grouping_spread_119 rfl ?_
                        obtain ⟨_, b210, -⟩ := I199.1 _ _ t201
                        refine mv_callV (kc' := 0) (ks' := 0) (As := [.int i5_188]) (st9 := [.int i5_188, .ref o0]) d_Grouping_spread_121 lV_Grouping_60 b210 rfl (tc_Grouping_holdsTogether (d := (d + 1)) (x9 := x9) (o0 := o0) (x1 := i5_188) t201 I199.start) rfl (Nat.le_of_ble_eq_true rfl) (Nat.le_of_ble_eq_true rfl) (Nat.le_of_ble_eq_true rfl) (hst := rfl) (fun b204r M205 n206 b204 => ?_)
                        obtain ⟨T207, J208, v211, rfl, b212, b213⟩ := b204
                        have I209 := I199.call J208 (tm_sub (by decide)) (Or.inl rfl)
                        have t214 := J208.up t201
                        have q215 := J208.keep t201 (by decide) q202
                        have t216 := J208.up t203
                        have := mz_hi v211
                        refine mv_if_eqZ (tgt := 155) (a := v211.toInt) d_Grouping_spread_124 (by decide) rfl (fun b217 => ?_) (fun b217 => ?_)
                        · refine mv_aload_n d_Grouping_spread_155 rfl rfl ?_
                          obtain ⟨a219, q218, t_a219⟩ := tm_atR I209 t214 (k := 9) rfl
                          refine tr_getK q218 d_Grouping_spread_156 f_Grouping_28_7 ?_
                          refine mv_iload d_Grouping_spread_159 rfl ?_
                          refine mv_dup2_11 d_Grouping_spread_161 rfl rfl ?_
                          refine tr_iald I209 t_a219 (by decide) d_Grouping_spread_162 (vp_in_iff.mpr (by omega)) (fun v220 => ?_)
                          refine mv_iconst (v := 1) d_Grouping_spread_163 (by decide) ?_
                          refine mv_isub d_Grouping_spread_164 ?_
                          refine tr_iastK tm_okF I209 t_a219 (by decide) (Or.inl (by decide)) d_Grouping_spread_165 (vp_in_iff.mpr (by omega)) (fun M221 I222 K223 => ?_)
                          refine mv_aload_n d_Grouping_spread_166 rfl rfl ?_
                          obtain ⟨a225, q224, t_a225⟩ := tm_atR I222 t214 (k := 11) rfl
                          refine tr_getK q224 d_Grouping_spread_167 f_Grouping_34_7 ?_
                          refine mv_iload d_Grouping_spread_170 rfl ?_
                          refine mv_dup2_11 d_Grouping_spread_172 rfl rfl ?_
                          refine tr_lald I222 t_a225 (by decide) d_Grouping_spread_173 (vp_in_iff.mpr (by omega)) (fun v226 => ?_)
                          refine mv_aload_n d_Grouping_spread_174 rfl rfl ?_
                          obtain ⟨a228, q227, t_a228⟩ := tm_atR I222 t214 (k := 5) rfl
                          refine tr_getK q227 d_Grouping_spread_175 f_Grouping_15_7 ?_
                          refine mv_iload_n d_Grouping_spread_178 rfl rfl ?_
                          refine tr_lald I222 t_a228 (by decide) d_Grouping_spread_179 (vp_in_iff.mpr (by omega)) (fun v229 => ?_)
                          refine mv_lsub d_Grouping_spread_180 ?_
                          refine tr_lastK tm_okF I222 t_a225 (by decide) (Or.inl (by decide)) d_Grouping_spread_181 (vp_in_iff.mpr (by omega)) (fun M230 I231 K232 => ?_)
                          refine mv_aload_n d_Grouping_spread_182 rfl rfl ?_
                          refine tr_getK (k := 10) (K232 _ 7 10 _ (K223 _ 7 10 _ q215)) d_Grouping_spread_183 f_Grouping_31_7 ?_
                          refine mv_iload d_Grouping_spread_186 rfl ?_
                          refine mv_iload d_Grouping_spread_188 rfl ?_
                          refine tr_iastK tm_okF I231 t216 (by decide) (Or.inl (by decide)) d_Grouping_spread_190 (vp_in_iff.mpr (by omega)) (fun M233 I234 K235 => ?_)
                          refine mv_iinc (v := (i5_188 + 1)) (lv' := [(5, .int (i5_188 + 1)), (6, .int v193), (3, .long (if (v12 - v17) < v4 then v4 else (v12 - v17))), (0, .ref o0), (1, .int x1), (2, .int x2)]) d_Grouping_spread_191 rfl rfl (by decide) rfl ?_
                          refine mv_goto (tgt := 89) d_Grouping_spread_194 (by decide) ?_
                          refine mv_locals (lv' := [(5, .int (i5_188 + 1)), (3, .long (if (v12 - v17) < v4 then v4 else (v12 - v17))), (0, .ref o0), (1, .int x1), (2, .int x2)]) (by intro q hq; simp only [List.mem_cons, List.not_mem_nil, or_false] at hq; rcases hq with rfl | rfl | rfl | rfl | rfl <;> rfl) ?_
                          have b236 : (i5_188 + 1).toInt = i5_188.toInt + 1 := mz_addn 1 1 (by decide) (by have := mz_lo i5_188; omega) (by have := mz_hi i5_188; omega)
                          exact (ih188 (i5_188 + 1) T207 M233 n206 I234 t214 (by first | omega | decide) (by omega))
                        · refine mv_aload_n d_Grouping_spread_127 rfl rfl ?_
                          obtain ⟨a238, q237, t_a238⟩ := tm_atR I209 t214 (k := 7) rfl
                          refine tr_getK q237 d_Grouping_spread_128 f_Grouping_22_7 ?_
                          refine mv_iload_n d_Grouping_spread_131 rfl rfl ?_
                          refine mv_iload d_Grouping_spread_132 rfl ?_
                          refine tr_iastK tm_okF I209 t_a238 (by decide) (Or.inl (by decide)) d_Grouping_spread_134 (vp_in_iff.mpr (by omega)) (fun M239 I240 K241 => ?_)
                          refine mv_aload_n d_Grouping_spread_135 rfl rfl ?_
                          refine mv_iload_n d_Grouping_spread_136 rfl rfl ?_
                          refine mv_iconst (v := 1) d_Grouping_spread_137 (by decide) ?_
                          refine mv_iadd d_Grouping_spread_138 ?_
                          refine mv_iload d_Grouping_spread_139 rfl ?_
                          refine mv_iload_n d_Grouping_spread_141 rfl rfl ?_
                          have := mz_hi i5_188
                          have := mz_hi x2
                          refine mv_icmp_neZ (tgt := 151) (a := i5_188.toInt) (b := x2.toInt) d_Grouping_spread_142 (by decide) rfl rfl (fun b242 => ?_) (fun b242 => ?_)
                          · refine mv_iload_n d_Grouping_spread_151 rfl rfl ?_
                            have b243 : (x1 + 1).toInt = x1.toInt + 1 := mz_addn 1 1 (by decide) (by omega) (by omega)
                            obtain ⟨_, b250, -⟩ := I240.1 _ _ t214
                            refine mv_callV (kc' := 0) (ks' := 0) (As := [.int (x1 + 1), .int x2]) (st9 := [.int x2, .int (x1 + 1), .ref o0]) d_Grouping_spread_152 lV_Grouping_77 b250 rfl (tc_Grouping_spread_q1 (d := d) (x9 := x9) (o0 := o0) (x1 := (x1 + 1)) (x2 := x2) t214 (by first | omega | decide) I240.start) rfl (Nat.le_of_ble_eq_true rfl) (Nat.le_of_ble_eq_true rfl) (Nat.le_of_ble_eq_true rfl) (hst := rfl) (fun b244r M245 n246 b244 => ?_)
                            obtain ⟨T247, J248, rfl⟩ := b244
                            have I249 := I240.call J248 (tm_sub (by decide)) (Or.inl rfl)
                            have t251 := J248.up t214
                            have q252 := J248.keep t214 (by decide) (K241 _ 7 10 _ q215)
                            have t253 := J248.up t216
                            have q254 := J248.keep t214 (by decide) (K241 _ 7 7 _ q237)
                            have t255 := J248.up t_a238
                            refine mv_aload_n d_Grouping_spread_155 rfl rfl ?_
                            obtain ⟨a257, q256, t_a257⟩ := tm_atR I249 t251 (k := 9) rfl
                            refine tr_getK q256 d_Grouping_spread_156 f_Grouping_28_7 ?_
                            refine mv_iload d_Grouping_spread_159 rfl ?_
                            refine mv_dup2_11 d_Grouping_spread_161 rfl rfl ?_
                            refine tr_iald I249 t_a257 (by decide) d_Grouping_spread_162 (vp_in_iff.mpr (by omega)) (fun v258 => ?_)
                            refine mv_iconst (v := 1) d_Grouping_spread_163 (by decide) ?_
                            refine mv_isub d_Grouping_spread_164 ?_
                            refine tr_iastK tm_okF I249 t_a257 (by decide) (Or.inl (by decide)) d_Grouping_spread_165 (vp_in_iff.mpr (by omega)) (fun M259 I260 K261 => ?_)
                            refine mv_aload_n d_Grouping_spread_166 rfl rfl ?_
                            obtain ⟨a263, q262, t_a263⟩ := tm_atR I260 t251 (k := 11) rfl
                            refine tr_getK q262 d_Grouping_spread_167 f_Grouping_34_7 ?_
                            refine mv_iload d_Grouping_spread_170 rfl ?_
                            refine mv_dup2_11 d_Grouping_spread_172 rfl rfl ?_
                            refine tr_lald I260 t_a263 (by decide) d_Grouping_spread_173 (vp_in_iff.mpr (by omega)) (fun v264 => ?_)
                            refine mv_aload_n d_Grouping_spread_174 rfl rfl ?_
                            obtain ⟨a266, q265, t_a266⟩ := tm_atR I260 t251 (k := 5) rfl
                            refine tr_getK q265 d_Grouping_spread_175 f_Grouping_15_7 ?_
                            refine mv_iload_n d_Grouping_spread_178 rfl rfl ?_
                            refine tr_lald I260 t_a266 (by decide) d_Grouping_spread_179 (vp_in_iff.mpr (by omega)) (fun v267 => ?_)
                            refine mv_lsub d_Grouping_spread_180 ?_
                            refine tr_lastK tm_okF I260 t_a263 (by decide) (Or.inl (by decide)) d_Grouping_spread_181 (vp_in_iff.mpr (by omega)) (fun M268 I269 K270 => ?_)
                            refine mv_aload_n d_Grouping_spread_182 rfl rfl ?_
                            refine tr_getK (k := 10) (K270 _ 7 10 _ (K261 _ 7 10 _ q252)) d_Grouping_spread_183 f_Grouping_31_7 ?_
                            refine mv_iload d_Grouping_spread_186 rfl ?_
                            refine mv_iload d_Grouping_spread_188 rfl ?_
                            refine tr_iastK tm_okF I269 t253 (by decide) (Or.inl (by decide)) d_Grouping_spread_190 (vp_in_iff.mpr (by omega)) (fun M271 I272 K273 => ?_)
                            refine mv_iinc (v := (i5_188 + 1)) (lv' := [(5, .int (i5_188 + 1)), (6, .int v193), (3, .long (if (v12 - v17) < v4 then v4 else (v12 - v17))), (0, .ref o0), (1, .int x1), (2, .int x2)]) d_Grouping_spread_191 rfl rfl (by decide) rfl ?_
                            refine mv_goto (tgt := 89) d_Grouping_spread_194 (by decide) ?_
                            refine mv_locals (lv' := [(5, .int (i5_188 + 1)), (3, .long (if (v12 - v17) < v4 then v4 else (v12 - v17))), (0, .ref o0), (1, .int x1), (2, .int x2)]) (by intro q hq; simp only [List.mem_cons, List.not_mem_nil, or_false] at hq; rcases hq with rfl | rfl | rfl | rfl | rfl <;> rfl) ?_
                            have b274 : (i5_188 + 1).toInt = i5_188.toInt + 1 := mz_addn 1 1 (by decide) (by have := mz_lo i5_188; omega) (by have := mz_hi i5_188; omega)
                            exact (ih188 (i5_188 + 1) T247 M271 n246 I272 t251 (by first | omega | decide) (by omega))
                          · refine mv_iload_n d_Grouping_spread_145 rfl rfl ?_
                            refine mv_iconst (v := 1) d_Grouping_spread_146 (by decide) ?_
                            refine mv_iadd d_Grouping_spread_147 ?_
                            refine mv_goto (tgt := 152) d_Grouping_spread_148 (by decide) ?_
                            have b275 : (x1 + 1).toInt = x1.toInt + 1 := mz_addn 1 1 (by decide) (by omega) (by omega)
                            obtain ⟨_, b282, -⟩ := I240.1 _ _ t214
                            refine mv_callV (kc' := 0) (ks' := 0) (As := [.int (x1 + 1), .int (x2 + 1)]) (st9 := [.int (x2 + 1), .int (x1 + 1), .ref o0]) d_Grouping_spread_152 lV_Grouping_77 b282 rfl (tc_Grouping_spread_q1 (d := d) (x9 := x9) (o0 := o0) (x1 := (x1 + 1)) (x2 := (x2 + 1)) t214 (by first | omega | decide) I240.start) rfl (Nat.le_of_ble_eq_true rfl) (Nat.le_of_ble_eq_true rfl) (Nat.le_of_ble_eq_true rfl) (hst := rfl) (fun b276r M277 n278 b276 => ?_)
                            obtain ⟨T279, J280, rfl⟩ := b276
                            have I281 := I240.call J280 (tm_sub (by decide)) (Or.inl rfl)
                            have t283 := J280.up t214
                            have q284 := J280.keep t214 (by decide) (K241 _ 7 10 _ q215)
                            have t285 := J280.up t216
                            have q286 := J280.keep t214 (by decide) (K241 _ 7 7 _ q237)
                            have t287 := J280.up t_a238
                            refine mv_aload_n d_Grouping_spread_155 rfl rfl ?_
                            obtain ⟨a289, q288, t_a289⟩ := tm_atR I281 t283 (k := 9) rfl
                            refine tr_getK q288 d_Grouping_spread_156 f_Grouping_28_7 ?_
                            refine mv_iload d_Grouping_spread_159 rfl ?_
                            refine mv_dup2_11 d_Grouping_spread_161 rfl rfl ?_
                            refine tr_iald I281 t_a289 (by decide) d_Grouping_spread_162 (vp_in_iff.mpr (by omega)) (fun v290 => ?_)
                            refine mv_iconst (v := 1) d_Grouping_spread_163 (by decide) ?_
                            refine mv_isub d_Grouping_spread_164 ?_
                            refine tr_iastK tm_okF I281 t_a289 (by decide) (Or.inl (by decide)) d_Grouping_spread_165 (vp_in_iff.mpr (by omega)) (fun M291 I292 K293 => ?_)
                            refine mv_aload_n d_Grouping_spread_166 rfl rfl ?_
                            obtain ⟨a295, q294, t_a295⟩ := tm_atR I292 t283 (k := 11) rfl
                            refine tr_getK q294 d_Grouping_spread_167 f_Grouping_34_7 ?_
                            refine mv_iload d_Grouping_spread_170 rfl ?_
                            refine mv_dup2_11 d_Grouping_spread_172 rfl rfl ?_
                            refine tr_lald I292 t_a295 (by decide) d_Grouping_spread_173 (vp_in_iff.mpr (by omega)) (fun v296 => ?_)
                            refine mv_aload_n d_Grouping_spread_174 rfl rfl ?_
                            obtain ⟨a298, q297, t_a298⟩ := tm_atR I292 t283 (k := 5) rfl
                            refine tr_getK q297 d_Grouping_spread_175 f_Grouping_15_7 ?_
                            refine mv_iload_n d_Grouping_spread_178 rfl rfl ?_
                            refine tr_lald I292 t_a298 (by decide) d_Grouping_spread_179 (vp_in_iff.mpr (by omega)) (fun v299 => ?_)
                            refine mv_lsub d_Grouping_spread_180 ?_
                            refine tr_lastK tm_okF I292 t_a295 (by decide) (Or.inl (by decide)) d_Grouping_spread_181 (vp_in_iff.mpr (by omega)) (fun M300 I301 K302 => ?_)
                            refine mv_aload_n d_Grouping_spread_182 rfl rfl ?_
                            refine tr_getK (k := 10) (K302 _ 7 10 _ (K293 _ 7 10 _ q284)) d_Grouping_spread_183 f_Grouping_31_7 ?_
                            refine mv_iload d_Grouping_spread_186 rfl ?_
                            refine mv_iload d_Grouping_spread_188 rfl ?_
                            refine tr_iastK tm_okF I301 t285 (by decide) (Or.inl (by decide)) d_Grouping_spread_190 (vp_in_iff.mpr (by omega)) (fun M303 I304 K305 => ?_)
                            refine mv_iinc (v := (i5_188 + 1)) (lv' := [(5, .int (i5_188 + 1)), (6, .int v193), (3, .long (if (v12 - v17) < v4 then v4 else (v12 - v17))), (0, .ref o0), (1, .int x1), (2, .int x2)]) d_Grouping_spread_191 rfl rfl (by decide) rfl ?_
                            refine mv_goto (tgt := 89) d_Grouping_spread_194 (by decide) ?_
                            refine mv_locals (lv' := [(5, .int (i5_188 + 1)), (3, .long (if (v12 - v17) < v4 then v4 else (v12 - v17))), (0, .ref o0), (1, .int x1), (2, .int x2)]) (by intro q hq; simp only [List.mem_cons, List.not_mem_nil, or_false] at hq; rcases hq with rfl | rfl | rfl | rfl | rfl <;> rfl) ?_
                            have b306 : (i5_188 + 1).toInt = i5_188.toInt + 1 := mz_addn 1 1 (by decide) (by have := mz_lo i5_188; omega) (by have := mz_hi i5_188; omega)
                            exact (ih188 (i5_188 + 1) T279 M303 n278 I304 t283 (by first | omega | decide) (by omega))
                exact mv_less (Nat.zero_le _) (Nat.zero_le _) (L89_188 4294967296 0 T8 M6 n7 I10 t13 (by first | omega | decide) (by show (2147483647 - (0 : Int) : Int) < _; decide))
              · refine mv_aload_n d_Grouping_spread_79 rfl rfl ?_
                refine mv_lload_n d_Grouping_spread_80 rfl rfl ?_
                refine mv_iload_n d_Grouping_spread_81 rfl rfl ?_
                obtain ⟨_, b313, -⟩ := I10.1 _ _ t13
                refine mv_callV (kc' := 0) (ks' := 0) (As := [.long (if (v12 - v17) < v4 then v4 else (v12 - v17)), .int x2]) (st9 := [.int x2, .long (if (v12 - v17) < v4 then v4 else (v12 - v17)), .ref o0]) d_Grouping_spread_82 lV_Grouping_80 b313 rfl (tc_Grouping_keepAsBest (d := (d + 2)) (x9 := x9) (o0 := o0) (x1 := (if (v12 - v17) < v4 then v4 else (v12 - v17))) (x2 := x2) t13 I10.start) rfl (Nat.le_of_ble_eq_true rfl) (Nat.le_of_ble_eq_true rfl) (Nat.le_of_ble_eq_true rfl) (hst := rfl) (fun b307r M308 n309 b307 => ?_)
                obtain ⟨T310, J311, rfl⟩ := b307
                have I312 := I10.call J311 (tm_sub (by decide)) (Or.inl rfl)
                have t314 := J311.up t13
                have q315 := J311.keep t13 (by decide) q14
                have q316 := J311.keep t13 (by decide) q15
                have t317 := J311.up t_a16
                have q318 := J311.keep t13 (by decide) q172
                exact mv_vret d_Grouping_spread_85 rfl ⟨_, I312, rfl⟩
          · refine mv_iload_n d_Grouping_spread_56 rfl rfl ?_
            refine mv_aload_n d_Grouping_spread_57 rfl rfl ?_
            refine tr_getK (k := 3) q18 d_Grouping_spread_58 f_Grouping_47_7 ?_
            have := mz_hi x2
            have := mz_hi v19
            refine mv_icmp_ltZ (tgt := 65) (a := x2.toInt) (b := v19.toInt) d_Grouping_spread_61 (by decide) rfl rfl (fun b319 => ?_) (fun b319 => ?_)
            · refine mv_iload_n d_Grouping_spread_65 rfl rfl ?_
              refine mv_aload_n d_Grouping_spread_66 rfl rfl ?_
              obtain ⟨v321, q320⟩ := tm_atI I10 t13 (k := 2) rfl
              refine tr_getK q320 d_Grouping_spread_67 f_Grouping_44_7 ?_
              have := mz_hi x1
              have := mz_hi v321
              refine mv_icmp_geZ (tgt := 79) (a := x1.toInt) (b := v321.toInt) d_Grouping_spread_70 (by decide) rfl rfl (fun b322 => ?_) (fun b322 => ?_)
              · refine mv_aload_n d_Grouping_spread_79 rfl rfl ?_
                refine mv_lload_n d_Grouping_spread_80 rfl rfl ?_
                refine mv_iload_n d_Grouping_spread_81 rfl rfl ?_
                obtain ⟨_, b329, -⟩ := I10.1 _ _ t13
                refine mv_callV (kc' := 0) (ks' := 0) (As := [.long (if (v12 - v17) < v4 then v4 else (v12 - v17)), .int x2]) (st9 := [.int x2, .long (if (v12 - v17) < v4 then v4 else (v12 - v17)), .ref o0]) d_Grouping_spread_82 lV_Grouping_80 b329 rfl (tc_Grouping_keepAsBest (d := (d + 2)) (x9 := x9) (o0 := o0) (x1 := (if (v12 - v17) < v4 then v4 else (v12 - v17))) (x2 := x2) t13 I10.start) rfl (Nat.le_of_ble_eq_true rfl) (Nat.le_of_ble_eq_true rfl) (Nat.le_of_ble_eq_true rfl) (hst := rfl) (fun b323r M324 n325 b323 => ?_)
                obtain ⟨T326, J327, rfl⟩ := b323
                have I328 := I10.call J327 (tm_sub (by decide)) (Or.inl rfl)
                have t330 := J327.up t13
                have q331 := J327.keep t13 (by decide) q14
                have q332 := J327.keep t13 (by decide) q15
                have t333 := J327.up t_a16
                have q334 := J327.keep t13 (by decide) q320
                exact mv_vret d_Grouping_spread_85 rfl ⟨_, I328, rfl⟩
              · refine mv_iload_n d_Grouping_spread_73 rfl rfl ?_
                refine mv_bipush (v := 8) d_Grouping_spread_74 (by decide) ?_
                have := mz_hi x1
                refine mv_icmp_neZ (tgt := 86) (a := x1.toInt) (b := 8) d_Grouping_spread_76 (by decide) rfl (by decide) (fun b335 => ?_) (fun b335 => ?_)
                · refine mv_iconst (v := 0) d_Grouping_spread_86 (by decide) ?_
                  refine mv_istore (lv' := [(5, .int 0), (3, .long (if (v12 - v17) < v4 then v4 else (v12 - v17))), (0, .ref o0), (1, .int x1), (2, .int x2)]) d_Grouping_spread_87 (by decide) rfl ?_
                  have L89_336 : ∀ (k : Nat) (i5_336 : Int32) (T_336 : tm_H) (M_336 : mj_M) (n_336 : Nat), tm_I tm_FT (tm_in w_Grouping_spread_q2) x9 T0 M0 n0 T_336 M_336 n_336 → T_336 o0 = some (0, 7, 0) → 0 ≤ i5_336.toInt → 2147483647 - i5_336.toInt < (k : Int) → mj_V g l kY_Grouping_spread (d + 3) 89 [(5, .int i5_336), (3, .long (if (v12 - v17) < v4 then v4 else (v12 - v17))), (0, .ref o0), (1, .int x1), (2, .int x2)] [] M_336 n_336 0 0 (tm_Q tm_FT (tm_in w_Grouping_spread_q2) x9 T0 M0 n0 (fun r _ _ => r = none)) := by
                    intro k336
                    induction k336 with
                    | zero =>
                      intro i5_336 T_336 M_336 n_336 I_336 h_q0_336 iv0_336 hk336
                      have := mz_hi i5_336
                      omega
                    | succ k336 ih336 =>
                      intro i5_336 T_336 M_336 n_336 I_336 h_q0_336 iv0_336 hk336
                      refine mv_iload d_Grouping_spread_89 rfl ?_
                      refine mv_iload_n d_Grouping_spread_91 rfl rfl ?_
                      have := mz_hi i5_336
                      have := mz_hi x2
                      refine mv_icmp_gtZ (tgt := 197) (a := i5_336.toInt) (b := x2.toInt) d_Grouping_spread_92 (by decide) rfl rfl (fun b337 => ?_) (fun b337 => ?_)
                      · exact mv_vret d_Grouping_spread_197 rfl ⟨_, I_336, rfl⟩
                      · refine mv_iload d_Grouping_spread_95 rfl ?_
                        refine mv_bipush (v := 8) d_Grouping_spread_97 (by decide) ?_
                        have := mz_hi i5_336
                        refine mv_icmp_geZ (tgt := 197) (a := i5_336.toInt) (b := 8) d_Grouping_spread_99 (by decide) rfl (by decide) (fun b338 => ?_) (fun b338 => ?_)
                        · exact mv_vret d_Grouping_spread_197 rfl ⟨_, I_336, rfl⟩
                        · refine mv_aload_n d_Grouping_spread_102 rfl rfl ?_
                          obtain ⟨a340, q339, t_a340⟩ := tm_atR I_336 h_q0_336 (k := 10) rfl
                          refine tr_getK q339 d_Grouping_spread_103 f_Grouping_31_7 ?_
                          refine mv_iload d_Grouping_spread_106 rfl ?_
                          refine tr_iald I_336 t_a340 (by decide) d_Grouping_spread_108 (vp_in_iff.mpr (by omega)) (fun v341 => ?_)
                          refine mv_istore (lv' := [(6, .int v341), (5, .int i5_336), (3, .long (if (v12 - v17) < v4 then v4 else (v12 - v17))), (0, .ref o0), (1, .int x1), (2, .int x2)]) d_Grouping_spread_109 (by decide) rfl ?_
                          refine mv_aload_n d_Grouping_spread_111 rfl rfl ?_
                          refine mv_iload_n d_Grouping_spread_112 rfl rfl ?_
                          refine mv_iload d_Grouping_spread_113 rfl ?_
                          obtain ⟨_, b348, -⟩ := I_336.1 _ _ h_q0_336
                          refine mv_callV (kc' := 0) (ks' := 0) (As := [.int x1, .int i5_336]) (st9 := [.int i5_336, .int x1, .ref o0]) d_Grouping_spread_115 lV_Grouping_56 b348 rfl (tc_Grouping_put (d := (d + 2)) (x9 := x9) (o0 := o0) (x1 := x1) (x2 := i5_336) h_q0_336 I_336.start) rfl (Nat.le_of_ble_eq_true rfl) (Nat.le_of_ble_eq_true rfl) (Nat.le_of_ble_eq_true rfl) (hst := rfl) (fun b342r M343 n344 b342 => ?_)
                          obtain ⟨T345, J346, rfl⟩ := b342
                          have I347 := I_336.call J346 (tm_sub (by decide)) (Or.inl rfl)
                          have t349 := J346.up h_q0_336
                          have q350 := J346.keep h_q0_336 (by decide) q339
                          have t351 := J346.up t_a340
                          refine mv_aload_n d_Grouping_spread_118 rfl rfl ?_
                          refine mv_iload d_Grouping_spread_119 rfl ?_
                          obtain ⟨_, b358, -⟩ := I347.1 _ _ t349
                          refine mv_callV (kc' := 0) (ks' := 0) (As := [.int i5_336]) (st9 := [.int i5_336, .ref o0]) d_Grouping_spread_121 lV_Grouping_60 b358 rfl (tc_Grouping_holdsTogether (d := (d + 1)) (x9 := x9) (o0 := o0) (x1 := i5_336) t349 I347.start) rfl (Nat.le_of_ble_eq_true rfl) (Nat.le_of_ble_eq_true rfl) (Nat.le_of_ble_eq_true rfl) (hst := rfl) (fun b352r M353 n354 b352 => ?_)
                          obtain ⟨T355, J356, v359, rfl, b360, b361⟩ := b352
                          have I357 := I347.call J356 (tm_sub (by decide)) (Or.inl rfl)
                          have t362 := J356.up t349
                          have q363 := J356.keep t349 (by decide) q350
                          have t364 := J356.up t351
                          have := mz_hi v359
                          refine mv_if_eqZ (tgt := 155) (a := v359.toInt) d_Grouping_spread_124 (by decide) rfl (fun b365 => ?_) (fun b365 => ?_)
                          · refine mv_aload_n d_Grouping_spread_155 rfl rfl ?_
                            obtain ⟨a367, q366, t_a367⟩ := tm_atR I357 t362 (k := 9) rfl
                            refine tr_getK q366 d_Grouping_spread_156 f_Grouping_28_7 ?_
                            refine mv_iload d_Grouping_spread_159 rfl ?_
                            refine mv_dup2_11 d_Grouping_spread_161 rfl rfl ?_
                            refine tr_iald I357 t_a367 (by decide) d_Grouping_spread_162 (vp_in_iff.mpr (by omega)) (fun v368 => ?_)
                            refine mv_iconst (v := 1) d_Grouping_spread_163 (by decide) ?_
                            refine mv_isub d_Grouping_spread_164 ?_
                            refine tr_iastK tm_okF I357 t_a367 (by decide) (Or.inl (by decide)) d_Grouping_spread_165 (vp_in_iff.mpr (by omega)) (fun M369 I370 K371 => ?_)
                            refine mv_aload_n d_Grouping_spread_166 rfl rfl ?_
                            obtain ⟨a373, q372, t_a373⟩ := tm_atR I370 t362 (k := 11) rfl
                            refine tr_getK q372 d_Grouping_spread_167 f_Grouping_34_7 ?_
                            refine mv_iload d_Grouping_spread_170 rfl ?_
                            refine mv_dup2_11 d_Grouping_spread_172 rfl rfl ?_
                            refine tr_lald I370 t_a373 (by decide) d_Grouping_spread_173 (vp_in_iff.mpr (by omega)) (fun v374 => ?_)
                            refine mv_aload_n d_Grouping_spread_174 rfl rfl ?_
                            obtain ⟨a376, q375, t_a376⟩ := tm_atR I370 t362 (k := 5) rfl
                            refine tr_getK q375 d_Grouping_spread_175 f_Grouping_15_7 ?_
                            refine mv_iload_n d_Grouping_spread_178 rfl rfl ?_
                            refine tr_lald I370 t_a376 (by decide) d_Grouping_spread_179 (vp_in_iff.mpr (by omega)) (fun v377 => ?_)
                            refine mv_lsub d_Grouping_spread_180 ?_
                            refine tr_lastK tm_okF I370 t_a373 (by decide) (Or.inl (by decide)) d_Grouping_spread_181 (vp_in_iff.mpr (by omega)) (fun M378 I379 K380 => ?_)
                            refine mv_aload_n d_Grouping_spread_182 rfl rfl ?_
                            refine tr_getK (k := 10) (K380 _ 7 10 _ (K371 _ 7 10 _ q363)) d_Grouping_spread_183 f_Grouping_31_7 ?_
                            refine mv_iload d_Grouping_spread_186 rfl ?_
                            refine mv_iload d_Grouping_spread_188 rfl ?_
                            refine tr_iastK tm_okF I379 t364 (by decide) (Or.inl (by decide)) d_Grouping_spread_190 (vp_in_iff.mpr (by omega)) (fun M381 I382 K383 => ?_)
                            refine mv_iinc (v := (i5_336 + 1)) (lv' := [(5, .int (i5_336 + 1)), (6, .int v341), (3, .long (if (v12 - v17) < v4 then v4 else (v12 - v17))), (0, .ref o0), (1, .int x1), (2, .int x2)]) d_Grouping_spread_191 rfl rfl (by decide) rfl ?_
                            refine mv_goto (tgt := 89) d_Grouping_spread_194 (by decide) ?_
                            refine mv_locals (lv' := [(5, .int (i5_336 + 1)), (3, .long (if (v12 - v17) < v4 then v4 else (v12 - v17))), (0, .ref o0), (1, .int x1), (2, .int x2)]) (by intro q hq; simp only [List.mem_cons, List.not_mem_nil, or_false] at hq; rcases hq with rfl | rfl | rfl | rfl | rfl <;> rfl) ?_
                            have b384 : (i5_336 + 1).toInt = i5_336.toInt + 1 := mz_addn 1 1 (by decide) (by have := mz_lo i5_336; omega) (by have := mz_hi i5_336; omega)
                            exact (ih336 (i5_336 + 1) T355 M381 n354 I382 t362 (by first | omega | decide) (by omega))
                          · refine mv_aload_n d_Grouping_spread_127 rfl rfl ?_
                            obtain ⟨a386, q385, t_a386⟩ := tm_atR I357 t362 (k := 7) rfl
                            refine tr_getK q385 d_Grouping_spread_128 f_Grouping_22_7 ?_
                            refine mv_iload_n d_Grouping_spread_131 rfl rfl ?_
                            refine mv_iload d_Grouping_spread_132 rfl ?_
                            refine tr_iastK tm_okF I357 t_a386 (by decide) (Or.inl (by decide)) d_Grouping_spread_134 (vp_in_iff.mpr (by omega)) (fun M387 I388 K389 => ?_)
                            refine mv_aload_n d_Grouping_spread_135 rfl rfl ?_
                            refine mv_iload_n d_Grouping_spread_136 rfl rfl ?_
                            refine mv_iconst (v := 1) d_Grouping_spread_137 (by decide) ?_
                            refine mv_iadd d_Grouping_spread_138 ?_
                            refine mv_iload d_Grouping_spread_139 rfl ?_
                            refine mv_iload_n d_Grouping_spread_141 rfl rfl ?_
                            have := mz_hi i5_336
                            have := mz_hi x2
                            refine mv_icmp_neZ (tgt := 151) (a := i5_336.toInt) (b := x2.toInt) d_Grouping_spread_142 (by decide) rfl rfl (fun b390 => ?_) (fun b390 => ?_)
                            · refine mv_iload_n d_Grouping_spread_151 rfl rfl ?_
                              have b391 : (x1 + 1).toInt = x1.toInt + 1 := mz_addn 1 1 (by decide) (by omega) (by omega)
                              obtain ⟨_, b398, -⟩ := I388.1 _ _ t362
                              refine mv_callV (kc' := 0) (ks' := 0) (As := [.int (x1 + 1), .int x2]) (st9 := [.int x2, .int (x1 + 1), .ref o0]) d_Grouping_spread_152 lV_Grouping_77 b398 rfl (tc_Grouping_spread_q1 (d := d) (x9 := x9) (o0 := o0) (x1 := (x1 + 1)) (x2 := x2) t362 (by first | omega | decide) I388.start) rfl (Nat.le_of_ble_eq_true rfl) (Nat.le_of_ble_eq_true rfl) (Nat.le_of_ble_eq_true rfl) (hst := rfl) (fun b392r M393 n394 b392 => ?_)
                              obtain ⟨T395, J396, rfl⟩ := b392
                              have I397 := I388.call J396 (tm_sub (by decide)) (Or.inl rfl)
                              have t399 := J396.up t362
                              have q400 := J396.keep t362 (by decide) (K389 _ 7 10 _ q363)
                              have t401 := J396.up t364
                              have q402 := J396.keep t362 (by decide) (K389 _ 7 7 _ q385)
                              have t403 := J396.up t_a386
                              refine mv_aload_n d_Grouping_spread_155 rfl rfl ?_
                              obtain ⟨a405, q404, t_a405⟩ := tm_atR I397 t399 (k := 9) rfl
                              refine tr_getK q404 d_Grouping_spread_156 f_Grouping_28_7 ?_
                              refine mv_iload d_Grouping_spread_159 rfl ?_
                              refine mv_dup2_11 d_Grouping_spread_161 rfl rfl ?_
                              refine tr_iald I397 t_a405 (by decide) d_Grouping_spread_162 (vp_in_iff.mpr (by omega)) (fun v406 => ?_)
                              refine mv_iconst (v := 1) d_Grouping_spread_163 (by decide) ?_
                              refine mv_isub d_Grouping_spread_164 ?_
                              refine tr_iastK tm_okF I397 t_a405 (by decide) (Or.inl (by decide)) d_Grouping_spread_165 (vp_in_iff.mpr (by omega)) (fun M407 I408 K409 => ?_)
                              refine mv_aload_n d_Grouping_spread_166 rfl rfl ?_
                              obtain ⟨a411, q410, t_a411⟩ := tm_atR I408 t399 (k := 11) rfl
                              refine tr_getK q410 d_Grouping_spread_167 f_Grouping_34_7 ?_
                              refine mv_iload d_Grouping_spread_170 rfl ?_
                              refine mv_dup2_11 d_Grouping_spread_172 rfl rfl ?_
                              refine tr_lald I408 t_a411 (by decide) d_Grouping_spread_173 (vp_in_iff.mpr (by omega)) (fun v412 => ?_)
                              refine mv_aload_n d_Grouping_spread_174 rfl rfl ?_
                              obtain ⟨a414, q413, t_a414⟩ := tm_atR I408 t399 (k := 5) rfl
                              refine tr_getK q413 d_Grouping_spread_175 f_Grouping_15_7 ?_
                              refine mv_iload_n d_Grouping_spread_178 rfl rfl ?_
                              refine tr_lald I408 t_a414 (by decide) d_Grouping_spread_179 (vp_in_iff.mpr (by omega)) (fun v415 => ?_)
                              refine mv_lsub d_Grouping_spread_180 ?_
                              refine tr_lastK tm_okF I408 t_a411 (by decide) (Or.inl (by decide)) d_Grouping_spread_181 (vp_in_iff.mpr (by omega)) (fun M416 I417 K418 => ?_)
                              refine mv_aload_n d_Grouping_spread_182 rfl rfl ?_
                              refine tr_getK (k := 10) (K418 _ 7 10 _ (K409 _ 7 10 _ q400)) d_Grouping_spread_183 f_Grouping_31_7 ?_
                              refine mv_iload d_Grouping_spread_186 rfl ?_
                              refine mv_iload d_Grouping_spread_188 rfl ?_
                              refine tr_iastK tm_okF I417 t401 (by decide) (Or.inl (by decide)) d_Grouping_spread_190 (vp_in_iff.mpr (by omega)) (fun M419 I420 K421 => ?_)
                              refine mv_iinc (v := (i5_336 + 1)) (lv' := [(5, .int (i5_336 + 1)), (6, .int v341), (3, .long (if (v12 - v17) < v4 then v4 else (v12 - v17))), (0, .ref o0), (1, .int x1), (2, .int x2)]) d_Grouping_spread_191 rfl rfl (by decide) rfl ?_
                              refine mv_goto (tgt := 89) d_Grouping_spread_194 (by decide) ?_
                              refine mv_locals (lv' := [(5, .int (i5_336 + 1)), (3, .long (if (v12 - v17) < v4 then v4 else (v12 - v17))), (0, .ref o0), (1, .int x1), (2, .int x2)]) (by intro q hq; simp only [List.mem_cons, List.not_mem_nil, or_false] at hq; rcases hq with rfl | rfl | rfl | rfl | rfl <;> rfl) ?_
                              have b422 : (i5_336 + 1).toInt = i5_336.toInt + 1 := mz_addn 1 1 (by decide) (by have := mz_lo i5_336; omega) (by have := mz_hi i5_336; omega)
                              exact (ih336 (i5_336 + 1) T395 M419 n394 I420 t399 (by first | omega | decide) (by omega))
                            · refine mv_iload_n d_Grouping_spread_145 rfl rfl ?_
                              refine mv_iconst (v := 1) d_Grouping_spread_146 (by decide) ?_
                              refine mv_iadd d_Grouping_spread_147 ?_
                              refine mv_goto (tgt := 152) d_Grouping_spread_148 (by decide) ?_
                              have b423 : (x1 + 1).toInt = x1.toInt + 1 := mz_addn 1 1 (by decide) (by omega) (by omega)
                              obtain ⟨_, b430, -⟩ := I388.1 _ _ t362
                              refine mv_callV (kc' := 0) (ks' := 0) (As := [.int (x1 + 1), .int (x2 + 1)]) (st9 := [.int (x2 + 1), .int (x1 + 1), .ref o0]) d_Grouping_spread_152 lV_Grouping_77 b430 rfl (tc_Grouping_spread_q1 (d := d) (x9 := x9) (o0 := o0) (x1 := (x1 + 1)) (x2 := (x2 + 1)) t362 (by first | omega | decide) I388.start) rfl (Nat.le_of_ble_eq_true rfl) (Nat.le_of_ble_eq_true rfl) (Nat.le_of_ble_eq_true rfl) (hst := rfl) (fun b424r M425 n426 b424 => ?_)
                              obtain ⟨T427, J428, rfl⟩ := b424
                              have I429 := I388.call J428 (tm_sub (by decide)) (Or.inl rfl)
                              have t431 := J428.up t362
                              have q432 := J428.keep t362 (by decide) (K389 _ 7 10 _ q363)
                              have t433 := J428.up t364
                              have q434 := J428.keep t362 (by decide) (K389 _ 7 7 _ q385)
                              have t435 := J428.up t_a386
                              refine mv_aload_n d_Grouping_spread_155 rfl rfl ?_
                              obtain ⟨a437, q436, t_a437⟩ := tm_atR I429 t431 (k := 9) rfl
                              refine tr_getK q436 d_Grouping_spread_156 f_Grouping_28_7 ?_
                              refine mv_iload d_Grouping_spread_159 rfl ?_
                              refine mv_dup2_11 d_Grouping_spread_161 rfl rfl ?_
                              refine tr_iald I429 t_a437 (by decide) d_Grouping_spread_162 (vp_in_iff.mpr (by omega)) (fun v438 => ?_)
                              refine mv_iconst (v := 1) d_Grouping_spread_163 (by decide) ?_
                              refine mv_isub d_Grouping_spread_164 ?_
                              refine tr_iastK tm_okF I429 t_a437 (by decide) (Or.inl (by decide)) d_Grouping_spread_165 (vp_in_iff.mpr (by omega)) (fun M439 I440 K441 => ?_)
                              refine mv_aload_n d_Grouping_spread_166 rfl rfl ?_
                              obtain ⟨a443, q442, t_a443⟩ := tm_atR I440 t431 (k := 11) rfl
                              refine tr_getK q442 d_Grouping_spread_167 f_Grouping_34_7 ?_
                              refine mv_iload d_Grouping_spread_170 rfl ?_
                              refine mv_dup2_11 d_Grouping_spread_172 rfl rfl ?_
                              refine tr_lald I440 t_a443 (by decide) d_Grouping_spread_173 (vp_in_iff.mpr (by omega)) (fun v444 => ?_)
                              refine mv_aload_n d_Grouping_spread_174 rfl rfl ?_
                              obtain ⟨a446, q445, t_a446⟩ := tm_atR I440 t431 (k := 5) rfl
                              refine tr_getK q445 d_Grouping_spread_175 f_Grouping_15_7 ?_
                              refine mv_iload_n d_Grouping_spread_178 rfl rfl ?_
                              refine tr_lald I440 t_a446 (by decide) d_Grouping_spread_179 (vp_in_iff.mpr (by omega)) (fun v447 => ?_)
                              refine mv_lsub d_Grouping_spread_180 ?_
                              refine tr_lastK tm_okF I440 t_a443 (by decide) (Or.inl (by decide)) d_Grouping_spread_181 (vp_in_iff.mpr (by omega)) (fun M448 I449 K450 => ?_)
                              refine mv_aload_n d_Grouping_spread_182 rfl rfl ?_
                              refine tr_getK (k := 10) (K450 _ 7 10 _ (K441 _ 7 10 _ q432)) d_Grouping_spread_183 f_Grouping_31_7 ?_
                              refine mv_iload d_Grouping_spread_186 rfl ?_
                              refine mv_iload d_Grouping_spread_188 rfl ?_
                              refine tr_iastK tm_okF I449 t433 (by decide) (Or.inl (by decide)) d_Grouping_spread_190 (vp_in_iff.mpr (by omega)) (fun M451 I452 K453 => ?_)
                              refine mv_iinc (v := (i5_336 + 1)) (lv' := [(5, .int (i5_336 + 1)), (6, .int v341), (3, .long (if (v12 - v17) < v4 then v4 else (v12 - v17))), (0, .ref o0), (1, .int x1), (2, .int x2)]) d_Grouping_spread_191 rfl rfl (by decide) rfl ?_
                              refine mv_goto (tgt := 89) d_Grouping_spread_194 (by decide) ?_
                              refine mv_locals (lv' := [(5, .int (i5_336 + 1)), (3, .long (if (v12 - v17) < v4 then v4 else (v12 - v17))), (0, .ref o0), (1, .int x1), (2, .int x2)]) (by intro q hq; simp only [List.mem_cons, List.not_mem_nil, or_false] at hq; rcases hq with rfl | rfl | rfl | rfl | rfl <;> rfl) ?_
                              have b454 : (i5_336 + 1).toInt = i5_336.toInt + 1 := mz_addn 1 1 (by decide) (by have := mz_lo i5_336; omega) (by have := mz_hi i5_336; omega)
                              exact (ih336 (i5_336 + 1) T427 M451 n426 I452 t431 (by first | omega | decide) (by omega))
                  exact mv_less (Nat.zero_le _) (Nat.zero_le _) (L89_336 4294967296 0 T8 M6 n7 I10 t13 (by first | omega | decide) (by show (2147483647 - (0 : Int) : Int) < _; decide))
                · refine mv_aload_n d_Grouping_spread_79 rfl rfl ?_
                  refine mv_lload_n d_Grouping_spread_80 rfl rfl ?_
                  refine mv_iload_n d_Grouping_spread_81 rfl rfl ?_
                  obtain ⟨_, b461, -⟩ := I10.1 _ _ t13
                  refine mv_callV (kc' := 0) (ks' := 0) (As := [.long (if (v12 - v17) < v4 then v4 else (v12 - v17)), .int x2]) (st9 := [.int x2, .long (if (v12 - v17) < v4 then v4 else (v12 - v17)), .ref o0]) d_Grouping_spread_82 lV_Grouping_80 b461 rfl (tc_Grouping_keepAsBest (d := (d + 2)) (x9 := x9) (o0 := o0) (x1 := (if (v12 - v17) < v4 then v4 else (v12 - v17))) (x2 := x2) t13 I10.start) rfl (Nat.le_of_ble_eq_true rfl) (Nat.le_of_ble_eq_true rfl) (Nat.le_of_ble_eq_true rfl) (hst := rfl) (fun b455r M456 n457 b455 => ?_)
                  obtain ⟨T458, J459, rfl⟩ := b455
                  have I460 := I10.call J459 (tm_sub (by decide)) (Or.inl rfl)
                  have t462 := J459.up t13
                  have q463 := J459.keep t13 (by decide) q14
                  have q464 := J459.keep t13 (by decide) q15
                  have t465 := J459.up t_a16
                  have q466 := J459.keep t13 (by decide) q320
                  exact mv_vret d_Grouping_spread_85 rfl ⟨_, I460, rfl⟩
            · exact mv_vret d_Grouping_spread_64 rfl ⟨_, I10, rfl⟩
    · exact mv_vret d_Grouping_spread_10 rfl ⟨_, I0, rfl⟩
def w_Grouping_spread_q3 : List Nat := [700, 703, 757, 758, 759, 760, 761]
theorem tc_Grouping_spread_q3 {g : mj_G} {l : Launch} {d : Nat} {T0 : tm_H} {M0 : mj_M} {n0 x9 : Nat} {o0 : Nat} {x1 : Int32} {x2 : Int32} (h_o0 : T0 o0 = some (0, 7, 0)) (hp : 6 ≤ x1.toInt) (I0 : tm_I tm_FT (tm_in w_Grouping_spread_q3) x9 T0 M0 n0 T0 M0 n0) : mj_Met g l kY_Grouping_spread (d + 4) [.ref o0, .int x1, .int x2] M0 n0 0 0 (tm_Q tm_FT (tm_in w_Grouping_spread_q3) x9 T0 M0 n0 (fun r _ _ => r = none)) := by
  refine mj_enter (by decide) (Nat.le_of_ble_eq_true rfl) ?_
  refine mv_iload_n d_Grouping_spread_0 rfl rfl ?_
  have := mz_hi x1
  refine mv_if_ltZ (tgt := 10) (a := x1.toInt) d_Grouping_spread_1 (by decide) rfl (fun b1 => ?_) (fun b1 => ?_)
  · exact mv_vret d_Grouping_spread_10 rfl ⟨_, I0, rfl⟩
  · refine mv_iload_n d_Grouping_spread_4 rfl rfl ?_
    refine mv_bipush (v := 8) d_Grouping_spread_5 (by decide) ?_
    have := mz_hi x1
    refine mv_icmp_leZ (tgt := 11) (a := x1.toInt) (b := 8) d_Grouping_spread_7 (by decide) rfl (by decide) (fun b2 => ?_) (fun b2 => ?_)
    · refine mv_aload_n d_Grouping_spread_11 rfl rfl ?_
      obtain ⟨v4, q3⟩ := tm_atL I0 h_o0 (k := 13) rfl
      refine tr_getK q3 d_Grouping_spread_12 f_Grouping_74_7 ?_
      refine mv_aload_n d_Grouping_spread_15 rfl rfl ?_
      refine mv_iload_n d_Grouping_spread_16 rfl rfl ?_
      obtain ⟨_, b11, -⟩ := I0.1 _ _ h_o0
      refine mv_callV (kc' := 0) (ks' := 0) (As := [.int x2]) (st9 := [.int x2, .ref o0, .long v4]) d_Grouping_spread_17 lV_Grouping_64 b11 rfl (tc_Grouping_idleOf (d := (d + 2)) (x9 := x9) (o0 := o0) (x1 := x2) h_o0 I0.start) rfl (Nat.le_of_ble_eq_true rfl) (Nat.le_of_ble_eq_true rfl) (Nat.le_of_ble_eq_true rfl) (hst := rfl) (fun b5r M6 n7 b5 => ?_)
      obtain ⟨T8, J9, v12, rfl⟩ := b5
      have I10 := I0.call J9 (tm_sub (by decide)) (Or.inl rfl)
      have t13 := J9.up h_o0
      have q14 := J9.keep h_o0 (by decide) q3
      refine mv_aload_n d_Grouping_spread_20 rfl rfl ?_
      obtain ⟨a16, q15, t_a16⟩ := tm_atR I10 t13 (k := 12) rfl
      refine tr_getK q15 d_Grouping_spread_21 f_Grouping_37_7 ?_
      refine mv_iload_n d_Grouping_spread_24 rfl rfl ?_
      refine tr_lald I10 t_a16 (by decide) d_Grouping_spread_25 (vp_in_iff.mpr (by omega)) (fun v17 => ?_)
      refine mv_lsub d_Grouping_spread_26 ?_
      refine mv_mmax_long (v := (if (v12 - v17) < v4 then v4 else (v12 - v17))) d_Grouping_spread_27 (mj_in1 (List.mem_of_getElem? (i := 1243) (by decide +kernel)) rfl) (Nat.le_of_ble_eq_true rfl) rfl ?_
      refine mv_lstore_n (lv' := [(3, .long (if (v12 - v17) < v4 then v4 else (v12 - v17))), (0, .ref o0), (1, .int x1), (2, .int x2)]) d_Grouping_spread_30 rfl (by decide) rfl ?_
      refine mv_aload_n d_Grouping_spread_31 rfl rfl ?_
      obtain ⟨v19, q18⟩ := tm_atI I10 t13 (k := 3) rfl
      refine tr_getK q18 d_Grouping_spread_32 f_Grouping_47_7 ?_
      have := mz_hi v19
      refine mv_if_eqZ (tgt := 65) (a := v19.toInt) d_Grouping_spread_35 (by decide) rfl (fun b20 => ?_) (fun b20 => ?_)
      · refine mv_iload_n d_Grouping_spread_65 rfl rfl ?_
        refine mv_aload_n d_Grouping_spread_66 rfl rfl ?_
        obtain ⟨v22, q21⟩ := tm_atI I10 t13 (k := 2) rfl
        refine tr_getK q21 d_Grouping_spread_67 f_Grouping_44_7 ?_
        have := mz_hi x1
        have := mz_hi v22
        refine mv_icmp_geZ (tgt := 79) (a := x1.toInt) (b := v22.toInt) d_Grouping_spread_70 (by decide) rfl rfl (fun b23 => ?_) (fun b23 => ?_)
        · refine mv_aload_n d_Grouping_spread_79 rfl rfl ?_
          refine mv_lload_n d_Grouping_spread_80 rfl rfl ?_
          refine mv_iload_n d_Grouping_spread_81 rfl rfl ?_
          obtain ⟨_, b30, -⟩ := I10.1 _ _ t13
          refine mv_callV (kc' := 0) (ks' := 0) (As := [.long (if (v12 - v17) < v4 then v4 else (v12 - v17)), .int x2]) (st9 := [.int x2, .long (if (v12 - v17) < v4 then v4 else (v12 - v17)), .ref o0]) d_Grouping_spread_82 lV_Grouping_80 b30 rfl (tc_Grouping_keepAsBest (d := (d + 3)) (x9 := x9) (o0 := o0) (x1 := (if (v12 - v17) < v4 then v4 else (v12 - v17))) (x2 := x2) t13 I10.start) rfl (Nat.le_of_ble_eq_true rfl) (Nat.le_of_ble_eq_true rfl) (Nat.le_of_ble_eq_true rfl) (hst := rfl) (fun b24r M25 n26 b24 => ?_)
          obtain ⟨T27, J28, rfl⟩ := b24
          have I29 := I10.call J28 (tm_sub (by decide)) (Or.inl rfl)
          have t31 := J28.up t13
          have q32 := J28.keep t13 (by decide) q14
          have q33 := J28.keep t13 (by decide) q15
          have t34 := J28.up t_a16
          have q35 := J28.keep t13 (by decide) q21
          exact mv_vret d_Grouping_spread_85 rfl ⟨_, I29, rfl⟩
        · refine mv_iload_n d_Grouping_spread_73 rfl rfl ?_
          refine mv_bipush (v := 8) d_Grouping_spread_74 (by decide) ?_
          have := mz_hi x1
          refine mv_icmp_neZ (tgt := 86) (a := x1.toInt) (b := 8) d_Grouping_spread_76 (by decide) rfl (by decide) (fun b36 => ?_) (fun b36 => ?_)
          · refine mv_iconst (v := 0) d_Grouping_spread_86 (by decide) ?_
            refine mv_istore (lv' := [(5, .int 0), (3, .long (if (v12 - v17) < v4 then v4 else (v12 - v17))), (0, .ref o0), (1, .int x1), (2, .int x2)]) d_Grouping_spread_87 (by decide) rfl ?_
            have L89_37 : ∀ (k : Nat) (i5_37 : Int32) (T_37 : tm_H) (M_37 : mj_M) (n_37 : Nat), tm_I tm_FT (tm_in w_Grouping_spread_q3) x9 T0 M0 n0 T_37 M_37 n_37 → T_37 o0 = some (0, 7, 0) → 0 ≤ i5_37.toInt → 2147483647 - i5_37.toInt < (k : Int) → mj_V g l kY_Grouping_spread (d + 4) 89 [(5, .int i5_37), (3, .long (if (v12 - v17) < v4 then v4 else (v12 - v17))), (0, .ref o0), (1, .int x1), (2, .int x2)] [] M_37 n_37 0 0 (tm_Q tm_FT (tm_in w_Grouping_spread_q3) x9 T0 M0 n0 (fun r _ _ => r = none)) := by
              intro k37
              induction k37 with
              | zero =>
                intro i5_37 T_37 M_37 n_37 I_37 h_q0_37 iv0_37 hk37
                have := mz_hi i5_37
                omega
              | succ k37 ih37 =>
                intro i5_37 T_37 M_37 n_37 I_37 h_q0_37 iv0_37 hk37
                refine mv_iload d_Grouping_spread_89 rfl ?_
                refine mv_iload_n d_Grouping_spread_91 rfl rfl ?_
                have := mz_hi i5_37
                have := mz_hi x2
                refine mv_icmp_gtZ (tgt := 197) (a := i5_37.toInt) (b := x2.toInt) d_Grouping_spread_92 (by decide) rfl rfl (fun b38 => ?_) (fun b38 => ?_)
                · exact mv_vret d_Grouping_spread_197 rfl ⟨_, I_37, rfl⟩
                · refine mv_iload d_Grouping_spread_95 rfl ?_
                  refine mv_bipush (v := 8) d_Grouping_spread_97 (by decide) ?_
                  have := mz_hi i5_37
                  refine mv_icmp_geZ (tgt := 197) (a := i5_37.toInt) (b := 8) d_Grouping_spread_99 (by decide) rfl (by decide) (fun b39 => ?_) (fun b39 => ?_)
                  · exact mv_vret d_Grouping_spread_197 rfl ⟨_, I_37, rfl⟩
                  · refine mv_aload_n d_Grouping_spread_102 rfl rfl ?_
                    obtain ⟨a41, q40, t_a41⟩ := tm_atR I_37 h_q0_37 (k := 10) rfl
                    refine tr_getK q40 d_Grouping_spread_103 f_Grouping_31_7 ?_
                    refine mv_iload d_Grouping_spread_106 rfl ?_
                    refine tr_iald I_37 t_a41 (by decide) d_Grouping_spread_108 (vp_in_iff.mpr (by omega)) (fun v42 => ?_)
                    refine mv_istore (lv' := [(6, .int v42), (5, .int i5_37), (3, .long (if (v12 - v17) < v4 then v4 else (v12 - v17))), (0, .ref o0), (1, .int x1), (2, .int x2)]) d_Grouping_spread_109 (by decide) rfl ?_
                    refine mv_aload_n d_Grouping_spread_111 rfl rfl ?_
                    refine mv_iload_n d_Grouping_spread_112 rfl rfl ?_
                    refine mv_iload d_Grouping_spread_113 rfl ?_
                    obtain ⟨_, b49, -⟩ := I_37.1 _ _ h_q0_37
                    refine mv_callV (kc' := 0) (ks' := 0) (As := [.int x1, .int i5_37]) (st9 := [.int i5_37, .int x1, .ref o0]) d_Grouping_spread_115 lV_Grouping_56 b49 rfl (tc_Grouping_put (d := (d + 3)) (x9 := x9) (o0 := o0) (x1 := x1) (x2 := i5_37) h_q0_37 I_37.start) rfl (Nat.le_of_ble_eq_true rfl) (Nat.le_of_ble_eq_true rfl) (Nat.le_of_ble_eq_true rfl) (hst := rfl) (fun b43r M44 n45 b43 => ?_)
                    obtain ⟨T46, J47, rfl⟩ := b43
                    have I48 := I_37.call J47 (tm_sub (by decide)) (Or.inl rfl)
                    have t50 := J47.up h_q0_37
                    have q51 := J47.keep h_q0_37 (by decide) q40
                    have t52 := J47.up t_a41
                    refine mv_aload_n d_Grouping_spread_118 rfl rfl ?_
                    refine mv_iload d_Grouping_spread_119 rfl ?_
                    obtain ⟨_, b59, -⟩ := I48.1 _ _ t50
                    refine mv_callV (kc' := 0) (ks' := 0) (As := [.int i5_37]) (st9 := [.int i5_37, .ref o0]) d_Grouping_spread_121 lV_Grouping_60 b59 rfl (tc_Grouping_holdsTogether (d := (d + 2)) (x9 := x9) (o0 := o0) (x1 := i5_37) t50 I48.start) rfl (Nat.le_of_ble_eq_true rfl) (Nat.le_of_ble_eq_true rfl) (Nat.le_of_ble_eq_true rfl) (hst := rfl) (fun b53r M54 n55 b53 => ?_)
                    obtain ⟨T56, J57, v60, rfl, b61, b62⟩ := b53
                    have I58 := I48.call J57 (tm_sub (by decide)) (Or.inl rfl)
                    have t63 := J57.up t50
                    have q64 := J57.keep t50 (by decide) q51
                    have t65 := J57.up t52
                    have := mz_hi v60
                    refine mv_if_eqZ (tgt := 155) (a := v60.toInt) d_Grouping_spread_124 (by decide) rfl (fun b66 => ?_) (fun b66 => ?_)
                    · refine mv_aload_n d_Grouping_spread_155 rfl rfl ?_
                      obtain ⟨a68, q67, t_a68⟩ := tm_atR I58 t63 (k := 9) rfl
                      refine tr_getK q67 d_Grouping_spread_156 f_Grouping_28_7 ?_
                      refine mv_iload d_Grouping_spread_159 rfl ?_
                      refine mv_dup2_11 d_Grouping_spread_161 rfl rfl ?_
                      refine tr_iald I58 t_a68 (by decide) d_Grouping_spread_162 (vp_in_iff.mpr (by omega)) (fun v69 => ?_)
                      refine mv_iconst (v := 1) d_Grouping_spread_163 (by decide) ?_
                      refine mv_isub d_Grouping_spread_164 ?_
                      refine tr_iastK tm_okF I58 t_a68 (by decide) (Or.inl (by decide)) d_Grouping_spread_165 (vp_in_iff.mpr (by omega)) (fun M70 I71 K72 => ?_)
                      refine mv_aload_n d_Grouping_spread_166 rfl rfl ?_
                      obtain ⟨a74, q73, t_a74⟩ := tm_atR I71 t63 (k := 11) rfl
                      refine tr_getK q73 d_Grouping_spread_167 f_Grouping_34_7 ?_
                      refine mv_iload d_Grouping_spread_170 rfl ?_
                      refine mv_dup2_11 d_Grouping_spread_172 rfl rfl ?_
                      refine tr_lald I71 t_a74 (by decide) d_Grouping_spread_173 (vp_in_iff.mpr (by omega)) (fun v75 => ?_)
                      refine mv_aload_n d_Grouping_spread_174 rfl rfl ?_
                      obtain ⟨a77, q76, t_a77⟩ := tm_atR I71 t63 (k := 5) rfl
                      refine tr_getK q76 d_Grouping_spread_175 f_Grouping_15_7 ?_
                      refine mv_iload_n d_Grouping_spread_178 rfl rfl ?_
                      refine tr_lald I71 t_a77 (by decide) d_Grouping_spread_179 (vp_in_iff.mpr (by omega)) (fun v78 => ?_)
                      refine mv_lsub d_Grouping_spread_180 ?_
                      refine tr_lastK tm_okF I71 t_a74 (by decide) (Or.inl (by decide)) d_Grouping_spread_181 (vp_in_iff.mpr (by omega)) (fun M79 I80 K81 => ?_)
                      refine mv_aload_n d_Grouping_spread_182 rfl rfl ?_
                      refine tr_getK (k := 10) (K81 _ 7 10 _ (K72 _ 7 10 _ q64)) d_Grouping_spread_183 f_Grouping_31_7 ?_
                      refine mv_iload d_Grouping_spread_186 rfl ?_
                      refine mv_iload d_Grouping_spread_188 rfl ?_
                      refine tr_iastK tm_okF I80 t65 (by decide) (Or.inl (by decide)) d_Grouping_spread_190 (vp_in_iff.mpr (by omega)) (fun M82 I83 K84 => ?_)
                      refine mv_iinc (v := (i5_37 + 1)) (lv' := [(5, .int (i5_37 + 1)), (6, .int v42), (3, .long (if (v12 - v17) < v4 then v4 else (v12 - v17))), (0, .ref o0), (1, .int x1), (2, .int x2)]) d_Grouping_spread_191 rfl rfl (by decide) rfl ?_
                      refine mv_goto (tgt := 89) d_Grouping_spread_194 (by decide) ?_
                      refine mv_locals (lv' := [(5, .int (i5_37 + 1)), (3, .long (if (v12 - v17) < v4 then v4 else (v12 - v17))), (0, .ref o0), (1, .int x1), (2, .int x2)]) (by intro q hq; simp only [List.mem_cons, List.not_mem_nil, or_false] at hq; rcases hq with rfl | rfl | rfl | rfl | rfl <;> rfl) ?_
                      have b85 : (i5_37 + 1).toInt = i5_37.toInt + 1 := mz_addn 1 1 (by decide) (by have := mz_lo i5_37; omega) (by have := mz_hi i5_37; omega)
                      exact (ih37 (i5_37 + 1) T56 M82 n55 I83 t63 (by first | omega | decide) (by omega))
                    · refine mv_aload_n d_Grouping_spread_127 rfl rfl ?_
                      obtain ⟨a87, q86, t_a87⟩ := tm_atR I58 t63 (k := 7) rfl
                      refine tr_getK q86 d_Grouping_spread_128 f_Grouping_22_7 ?_
                      refine mv_iload_n d_Grouping_spread_131 rfl rfl ?_
                      refine mv_iload d_Grouping_spread_132 rfl ?_
                      refine tr_iastK tm_okF I58 t_a87 (by decide) (Or.inl (by decide)) d_Grouping_spread_134 (vp_in_iff.mpr (by omega)) (fun M88 I89 K90 => ?_)
                      refine mv_aload_n d_Grouping_spread_135 rfl rfl ?_
                      refine mv_iload_n d_Grouping_spread_136 rfl rfl ?_
                      refine mv_iconst (v := 1) d_Grouping_spread_137 (by decide) ?_
                      refine mv_iadd d_Grouping_spread_138 ?_
                      refine mv_iload d_Grouping_spread_139 rfl ?_
                      refine mv_iload_n d_Grouping_spread_141 rfl rfl ?_
                      have := mz_hi i5_37
                      have := mz_hi x2
                      refine mv_icmp_neZ (tgt := 151) (a := i5_37.toInt) (b := x2.toInt) d_Grouping_spread_142 (by decide) rfl rfl (fun b91 => ?_) (fun b91 => ?_)
                      · refine mv_iload_n d_Grouping_spread_151 rfl rfl ?_
                        have b92 : (x1 + 1).toInt = x1.toInt + 1 := mz_addn 1 1 (by decide) (by omega) (by omega)
                        obtain ⟨_, b99, -⟩ := I89.1 _ _ t63
                        refine mv_callV (kc' := 0) (ks' := 0) (As := [.int (x1 + 1), .int x2]) (st9 := [.int x2, .int (x1 + 1), .ref o0]) d_Grouping_spread_152 lV_Grouping_77 b99 rfl (tc_Grouping_spread_q2 (d := d) (x9 := x9) (o0 := o0) (x1 := (x1 + 1)) (x2 := x2) t63 (by first | omega | decide) I89.start) rfl (Nat.le_of_ble_eq_true rfl) (Nat.le_of_ble_eq_true rfl) (Nat.le_of_ble_eq_true rfl) (hst := rfl) (fun b93r M94 n95 b93 => ?_)
                        obtain ⟨T96, J97, rfl⟩ := b93
                        have I98 := I89.call J97 (tm_sub (by decide)) (Or.inl rfl)
                        have t100 := J97.up t63
                        have q101 := J97.keep t63 (by decide) (K90 _ 7 10 _ q64)
                        have t102 := J97.up t65
                        have q103 := J97.keep t63 (by decide) (K90 _ 7 7 _ q86)
                        have t104 := J97.up t_a87
                        refine mv_aload_n d_Grouping_spread_155 rfl rfl ?_
                        obtain ⟨a106, q105, t_a106⟩ := tm_atR I98 t100 (k := 9) rfl
                        refine tr_getK q105 d_Grouping_spread_156 f_Grouping_28_7 ?_
                        refine mv_iload d_Grouping_spread_159 rfl ?_
                        refine mv_dup2_11 d_Grouping_spread_161 rfl rfl ?_
                        refine tr_iald I98 t_a106 (by decide) d_Grouping_spread_162 (vp_in_iff.mpr (by omega)) (fun v107 => ?_)
                        refine mv_iconst (v := 1) d_Grouping_spread_163 (by decide) ?_
                        refine mv_isub d_Grouping_spread_164 ?_
                        refine tr_iastK tm_okF I98 t_a106 (by decide) (Or.inl (by decide)) d_Grouping_spread_165 (vp_in_iff.mpr (by omega)) (fun M108 I109 K110 => ?_)
                        refine mv_aload_n d_Grouping_spread_166 rfl rfl ?_
                        obtain ⟨a112, q111, t_a112⟩ := tm_atR I109 t100 (k := 11) rfl
                        refine tr_getK q111 d_Grouping_spread_167 f_Grouping_34_7 ?_
                        refine mv_iload d_Grouping_spread_170 rfl ?_
                        refine mv_dup2_11 d_Grouping_spread_172 rfl rfl ?_
                        refine tr_lald I109 t_a112 (by decide) d_Grouping_spread_173 (vp_in_iff.mpr (by omega)) (fun v113 => ?_)
                        refine mv_aload_n d_Grouping_spread_174 rfl rfl ?_
                        obtain ⟨a115, q114, t_a115⟩ := tm_atR I109 t100 (k := 5) rfl
                        refine tr_getK q114 d_Grouping_spread_175 f_Grouping_15_7 ?_
                        refine mv_iload_n d_Grouping_spread_178 rfl rfl ?_
                        refine tr_lald I109 t_a115 (by decide) d_Grouping_spread_179 (vp_in_iff.mpr (by omega)) (fun v116 => ?_)
                        refine mv_lsub d_Grouping_spread_180 ?_
                        refine tr_lastK tm_okF I109 t_a112 (by decide) (Or.inl (by decide)) d_Grouping_spread_181 (vp_in_iff.mpr (by omega)) (fun M117 I118 K119 => ?_)
                        refine mv_aload_n d_Grouping_spread_182 rfl rfl ?_
                        refine tr_getK (k := 10) (K119 _ 7 10 _ (K110 _ 7 10 _ q101)) d_Grouping_spread_183 f_Grouping_31_7 ?_
                        refine mv_iload d_Grouping_spread_186 rfl ?_
                        refine mv_iload d_Grouping_spread_188 rfl ?_
                        refine tr_iastK tm_okF I118 t102 (by decide) (Or.inl (by decide)) d_Grouping_spread_190 (vp_in_iff.mpr (by omega)) (fun M120 I121 K122 => ?_)
                        refine mv_iinc (v := (i5_37 + 1)) (lv' := [(5, .int (i5_37 + 1)), (6, .int v42), (3, .long (if (v12 - v17) < v4 then v4 else (v12 - v17))), (0, .ref o0), (1, .int x1), (2, .int x2)]) d_Grouping_spread_191 rfl rfl (by decide) rfl ?_
                        refine mv_goto (tgt := 89) d_Grouping_spread_194 (by decide) ?_
                        refine mv_locals (lv' := [(5, .int (i5_37 + 1)), (3, .long (if (v12 - v17) < v4 then v4 else (v12 - v17))), (0, .ref o0), (1, .int x1), (2, .int x2)]) (by intro q hq; simp only [List.mem_cons, List.not_mem_nil, or_false] at hq; rcases hq with rfl | rfl | rfl | rfl | rfl <;> rfl) ?_
                        have b123 : (i5_37 + 1).toInt = i5_37.toInt + 1 := mz_addn 1 1 (by decide) (by have := mz_lo i5_37; omega) (by have := mz_hi i5_37; omega)
                        exact (ih37 (i5_37 + 1) T96 M120 n95 I121 t100 (by first | omega | decide) (by omega))
                      · refine mv_iload_n d_Grouping_spread_145 rfl rfl ?_
                        refine mv_iconst (v := 1) d_Grouping_spread_146 (by decide) ?_
                        refine mv_iadd d_Grouping_spread_147 ?_
                        refine mv_goto (tgt := 152) d_Grouping_spread_148 (by decide) ?_
                        have b124 : (x1 + 1).toInt = x1.toInt + 1 := mz_addn 1 1 (by decide) (by omega) (by omega)
                        obtain ⟨_, b131, -⟩ := I89.1 _ _ t63
                        refine mv_callV (kc' := 0) (ks' := 0) (As := [.int (x1 + 1), .int (x2 + 1)]) (st9 := [.int (x2 + 1), .int (x1 + 1), .ref o0]) d_Grouping_spread_152 lV_Grouping_77 b131 rfl (tc_Grouping_spread_q2 (d := d) (x9 := x9) (o0 := o0) (x1 := (x1 + 1)) (x2 := (x2 + 1)) t63 (by first | omega | decide) I89.start) rfl (Nat.le_of_ble_eq_true rfl) (Nat.le_of_ble_eq_true rfl) (Nat.le_of_ble_eq_true rfl) (hst := rfl) (fun b125r M126 n127 b125 => ?_)
                        obtain ⟨T128, J129, rfl⟩ := b125
                        have I130 := I89.call J129 (tm_sub (by decide)) (Or.inl rfl)
                        have t132 := J129.up t63
                        have q133 := J129.keep t63 (by decide) (K90 _ 7 10 _ q64)
                        have t134 := J129.up t65
                        have q135 := J129.keep t63 (by decide) (K90 _ 7 7 _ q86)
                        have t136 := J129.up t_a87
                        refine mv_aload_n d_Grouping_spread_155 rfl rfl ?_
                        obtain ⟨a138, q137, t_a138⟩ := tm_atR I130 t132 (k := 9) rfl
                        refine tr_getK q137 d_Grouping_spread_156 f_Grouping_28_7 ?_
                        refine mv_iload d_Grouping_spread_159 rfl ?_
                        refine mv_dup2_11 d_Grouping_spread_161 rfl rfl ?_
                        refine tr_iald I130 t_a138 (by decide) d_Grouping_spread_162 (vp_in_iff.mpr (by omega)) (fun v139 => ?_)
                        refine mv_iconst (v := 1) d_Grouping_spread_163 (by decide) ?_
                        refine mv_isub d_Grouping_spread_164 ?_
                        refine tr_iastK tm_okF I130 t_a138 (by decide) (Or.inl (by decide)) d_Grouping_spread_165 (vp_in_iff.mpr (by omega)) (fun M140 I141 K142 => ?_)
                        refine mv_aload_n d_Grouping_spread_166 rfl rfl ?_
                        obtain ⟨a144, q143, t_a144⟩ := tm_atR I141 t132 (k := 11) rfl
                        refine tr_getK q143 d_Grouping_spread_167 f_Grouping_34_7 ?_
                        refine mv_iload d_Grouping_spread_170 rfl ?_
                        refine mv_dup2_11 d_Grouping_spread_172 rfl rfl ?_
                        refine tr_lald I141 t_a144 (by decide) d_Grouping_spread_173 (vp_in_iff.mpr (by omega)) (fun v145 => ?_)
                        refine mv_aload_n d_Grouping_spread_174 rfl rfl ?_
                        obtain ⟨a147, q146, t_a147⟩ := tm_atR I141 t132 (k := 5) rfl
                        refine tr_getK q146 d_Grouping_spread_175 f_Grouping_15_7 ?_
                        refine mv_iload_n d_Grouping_spread_178 rfl rfl ?_
                        refine tr_lald I141 t_a147 (by decide) d_Grouping_spread_179 (vp_in_iff.mpr (by omega)) (fun v148 => ?_)
                        refine mv_lsub d_Grouping_spread_180 ?_
                        refine tr_lastK tm_okF I141 t_a144 (by decide) (Or.inl (by decide)) d_Grouping_spread_181 (vp_in_iff.mpr (by omega)) (fun M149 I150 K151 => ?_)
                        refine mv_aload_n d_Grouping_spread_182 rfl rfl ?_
                        refine tr_getK (k := 10) (K151 _ 7 10 _ (K142 _ 7 10 _ q133)) d_Grouping_spread_183 f_Grouping_31_7 ?_
                        refine mv_iload d_Grouping_spread_186 rfl ?_
                        refine mv_iload d_Grouping_spread_188 rfl ?_
                        refine tr_iastK tm_okF I150 t134 (by decide) (Or.inl (by decide)) d_Grouping_spread_190 (vp_in_iff.mpr (by omega)) (fun M152 I153 K154 => ?_)
                        refine mv_iinc (v := (i5_37 + 1)) (lv' := [(5, .int (i5_37 + 1)), (6, .int v42), (3, .long (if (v12 - v17) < v4 then v4 else (v12 - v17))), (0, .ref o0), (1, .int x1), (2, .int x2)]) d_Grouping_spread_191 rfl rfl (by decide) rfl ?_
                        refine mv_goto (tgt := 89) d_Grouping_spread_194 (by decide) ?_
                        refine mv_locals (lv' := [(5, .int (i5_37 + 1)), (3, .long (if (v12 - v17) < v4 then v4 else (v12 - v17))), (0, .ref o0), (1, .int x1), (2, .int x2)]) (by intro q hq; simp only [List.mem_cons, List.not_mem_nil, or_false] at hq; rcases hq with rfl | rfl | rfl | rfl | rfl <;> rfl) ?_
                        have b155 : (i5_37 + 1).toInt = i5_37.toInt + 1 := mz_addn 1 1 (by decide) (by have := mz_lo i5_37; omega) (by have := mz_hi i5_37; omega)
                        exact (ih37 (i5_37 + 1) T128 M152 n127 I153 t132 (by first | omega | decide) (by omega))
            exact mv_less (Nat.zero_le _) (Nat.zero_le _) (L89_37 4294967296 0 T8 M6 n7 I10 t13 (by first | omega | decide) (by show (2147483647 - (0 : Int) : Int) < _; decide))
          · refine mv_aload_n d_Grouping_spread_79 rfl rfl ?_
            refine mv_lload_n d_Grouping_spread_80 rfl rfl ?_
            refine mv_iload_n d_Grouping_spread_81 rfl rfl ?_
            obtain ⟨_, b162, -⟩ := I10.1 _ _ t13
            refine mv_callV (kc' := 0) (ks' := 0) (As := [.long (if (v12 - v17) < v4 then v4 else (v12 - v17)), .int x2]) (st9 := [.int x2, .long (if (v12 - v17) < v4 then v4 else (v12 - v17)), .ref o0]) d_Grouping_spread_82 lV_Grouping_80 b162 rfl (tc_Grouping_keepAsBest (d := (d + 3)) (x9 := x9) (o0 := o0) (x1 := (if (v12 - v17) < v4 then v4 else (v12 - v17))) (x2 := x2) t13 I10.start) rfl (Nat.le_of_ble_eq_true rfl) (Nat.le_of_ble_eq_true rfl) (Nat.le_of_ble_eq_true rfl) (hst := rfl) (fun b156r M157 n158 b156 => ?_)
            obtain ⟨T159, J160, rfl⟩ := b156
            have I161 := I10.call J160 (tm_sub (by decide)) (Or.inl rfl)
            have t163 := J160.up t13
            have q164 := J160.keep t13 (by decide) q14
            have q165 := J160.keep t13 (by decide) q15
            have t166 := J160.up t_a16
            have q167 := J160.keep t13 (by decide) q21
            exact mv_vret d_Grouping_spread_85 rfl ⟨_, I161, rfl⟩
      · refine mv_lload_n d_Grouping_spread_38 rfl rfl ?_
        refine mv_aload_n d_Grouping_spread_39 rfl rfl ?_
        obtain ⟨v169, q168⟩ := tm_atL I10 t13 (k := 0) rfl
        refine tr_getK q168 d_Grouping_spread_40 f_Grouping_50_7 ?_
        refine mv_lgtZ (tgt := 64) (a := (if (v12 - v17) < v4 then v4 else (v12 - v17)).toInt) (b := v169.toInt) d_Grouping_spread_43 d_Grouping_spread_44 (by decide) rfl rfl (fun b170 => ?_) (fun b170 => ?_)
        · exact mv_vret d_Grouping_spread_64 rfl ⟨_, I10, rfl⟩
        · refine mv_lload_n d_Grouping_spread_47 rfl rfl ?_
          refine mv_aload_n d_Grouping_spread_48 rfl rfl ?_
          refine tr_getK (k := 0) q168 d_Grouping_spread_49 f_Grouping_50_7 ?_
          refine mv_lneZ (tgt := 65) (a := (if (v12 - v17) < v4 then v4 else (v12 - v17)).toInt) (b := v169.toInt) d_Grouping_spread_52 d_Grouping_spread_53 (by decide) rfl rfl (fun b171 => ?_) (fun b171 => ?_)
          · refine mv_iload_n d_Grouping_spread_65 rfl rfl ?_
            refine mv_aload_n d_Grouping_spread_66 rfl rfl ?_
            obtain ⟨v173, q172⟩ := tm_atI I10 t13 (k := 2) rfl
            refine tr_getK q172 d_Grouping_spread_67 f_Grouping_44_7 ?_
            have := mz_hi x1
            have := mz_hi v173
            refine mv_icmp_geZ (tgt := 79) (a := x1.toInt) (b := v173.toInt) d_Grouping_spread_70 (by decide) rfl rfl (fun b174 => ?_) (fun b174 => ?_)
            · refine mv_aload_n d_Grouping_spread_79 rfl rfl ?_
              refine mv_lload_n d_Grouping_spread_80 rfl rfl ?_
              refine mv_iload_n d_Grouping_spread_81 rfl rfl ?_
              obtain ⟨_, b181, -⟩ := I10.1 _ _ t13
              refine mv_callV (kc' := 0) (ks' := 0) (As := [.long (if (v12 - v17) < v4 then v4 else (v12 - v17)), .int x2]) (st9 := [.int x2, .long (if (v12 - v17) < v4 then v4 else (v12 - v17)), .ref o0]) d_Grouping_spread_82 lV_Grouping_80 b181 rfl (tc_Grouping_keepAsBest (d := (d + 3)) (x9 := x9) (o0 := o0) (x1 := (if (v12 - v17) < v4 then v4 else (v12 - v17))) (x2 := x2) t13 I10.start) rfl (Nat.le_of_ble_eq_true rfl) (Nat.le_of_ble_eq_true rfl) (Nat.le_of_ble_eq_true rfl) (hst := rfl) (fun b175r M176 n177 b175 => ?_)
              obtain ⟨T178, J179, rfl⟩ := b175
              have I180 := I10.call J179 (tm_sub (by decide)) (Or.inl rfl)
              have t182 := J179.up t13
              have q183 := J179.keep t13 (by decide) q14
              have q184 := J179.keep t13 (by decide) q15
              have t185 := J179.up t_a16
              have q186 := J179.keep t13 (by decide) q172
              exact mv_vret d_Grouping_spread_85 rfl ⟨_, I180, rfl⟩
            · refine mv_iload_n d_Grouping_spread_73 rfl rfl ?_
              refine mv_bipush (v := 8) d_Grouping_spread_74 (by decide) ?_
              have := mz_hi x1
              refine mv_icmp_neZ (tgt := 86) (a := x1.toInt) (b := 8) d_Grouping_spread_76 (by decide) rfl (by decide) (fun b187 => ?_) (fun b187 => ?_)
              · refine mv_iconst (v := 0) d_Grouping_spread_86 (by decide) ?_
                refine mv_istore (lv' := [(5, .int 0), (3, .long (if (v12 - v17) < v4 then v4 else (v12 - v17))), (0, .ref o0), (1, .int x1), (2, .int x2)]) d_Grouping_spread_87 (by decide) rfl ?_
                have L89_188 : ∀ (k : Nat) (i5_188 : Int32) (T_188 : tm_H) (M_188 : mj_M) (n_188 : Nat), tm_I tm_FT (tm_in w_Grouping_spread_q3) x9 T0 M0 n0 T_188 M_188 n_188 → T_188 o0 = some (0, 7, 0) → 0 ≤ i5_188.toInt → 2147483647 - i5_188.toInt < (k : Int) → mj_V g l kY_Grouping_spread (d + 4) 89 [(5, .int i5_188), (3, .long (if (v12 - v17) < v4 then v4 else (v12 - v17))), (0, .ref o0), (1, .int x1), (2, .int x2)] [] M_188 n_188 0 0 (tm_Q tm_FT (tm_in w_Grouping_spread_q3) x9 T0 M0 n0 (fun r _ _ => r = none)) := by
                  intro k188
                  induction k188 with
                  | zero =>
                    intro i5_188 T_188 M_188 n_188 I_188 h_q0_188 iv0_188 hk188
                    have := mz_hi i5_188
                    omega
                  | succ k188 ih188 =>
                    intro i5_188 T_188 M_188 n_188 I_188 h_q0_188 iv0_188 hk188
                    refine mv_iload d_Grouping_spread_89 rfl ?_
                    refine mv_iload_n d_Grouping_spread_91 rfl rfl ?_
                    have := mz_hi i5_188
                    have := mz_hi x2
                    refine mv_icmp_gtZ (tgt := 197) (a := i5_188.toInt) (b := x2.toInt) d_Grouping_spread_92 (by decide) rfl rfl (fun b189 => ?_) (fun b189 => ?_)
                    · exact mv_vret d_Grouping_spread_197 rfl ⟨_, I_188, rfl⟩
                    · refine mv_iload d_Grouping_spread_95 rfl ?_
                      refine mv_bipush (v := 8) d_Grouping_spread_97 (by decide) ?_
                      have := mz_hi i5_188
                      refine mv_icmp_geZ (tgt := 197) (a := i5_188.toInt) (b := 8) d_Grouping_spread_99 (by decide) rfl (by decide) (fun b190 => ?_) (fun b190 => ?_)
                      · exact mv_vret d_Grouping_spread_197 rfl ⟨_, I_188, rfl⟩
                      · refine mv_aload_n d_Grouping_spread_102 rfl rfl ?_
                        obtain ⟨a192, q191, t_a192⟩ := tm_atR I_188 h_q0_188 (k := 10) rfl
                        refine tr_getK q191 d_Grouping_spread_103 f_Grouping_31_7 ?_
                        refine mv_iload d_Grouping_spread_106 rfl ?_
                        refine tr_iald I_188 t_a192 (by decide) d_Grouping_spread_108 (vp_in_iff.mpr (by omega)) (fun v193 => ?_)
                        refine mv_istore (lv' := [(6, .int v193), (5, .int i5_188), (3, .long (if (v12 - v17) < v4 then v4 else (v12 - v17))), (0, .ref o0), (1, .int x1), (2, .int x2)]) d_Grouping_spread_109 (by decide) rfl ?_
                        refine mv_aload_n d_Grouping_spread_111 rfl rfl ?_
                        refine mv_iload_n d_Grouping_spread_112 rfl rfl ?_
                        refine mv_iload d_Grouping_spread_113 rfl ?_
                        obtain ⟨_, b200, -⟩ := I_188.1 _ _ h_q0_188
                        refine mv_callV (kc' := 0) (ks' := 0) (As := [.int x1, .int i5_188]) (st9 := [.int i5_188, .int x1, .ref o0]) d_Grouping_spread_115 lV_Grouping_56 b200 rfl (tc_Grouping_put (d := (d + 3)) (x9 := x9) (o0 := o0) (x1 := x1) (x2 := i5_188) h_q0_188 I_188.start) rfl (Nat.le_of_ble_eq_true rfl) (Nat.le_of_ble_eq_true rfl) (Nat.le_of_ble_eq_true rfl) (hst := rfl) (fun b194r M195 n196 b194 => ?_)
                        obtain ⟨T197, J198, rfl⟩ := b194
                        have I199 := I_188.call J198 (tm_sub (by decide)) (Or.inl rfl)
                        have t201 := J198.up h_q0_188
                        have q202 := J198.keep h_q0_188 (by decide) q191
                        have t203 := J198.up t_a192
                        refine mv_aload_n d_Grouping_spread_118 rfl rfl ?_
                        refine mv_iload d_Grouping_spread_119 rfl ?_
                        obtain ⟨_, b210, -⟩ := I199.1 _ _ t201
                        refine mv_callV (kc' := 0) (ks' := 0) (As := [.int i5_188]) (st9 := [.int i5_188, .ref o0]) d_Grouping_spread_121 lV_Grouping_60 b210 rfl (tc_Grouping_holdsTogether (d := (d + 2)) (x9 := x9) (o0 := o0) (x1 := i5_188) t201 I199.start) rfl (Nat.le_of_ble_eq_true rfl) (Nat.le_of_ble_eq_true rfl) (Nat.le_of_ble_eq_true rfl) (hst := rfl) (fun b204r M205 n206 b204 => ?_)
                        obtain ⟨T207, J208, v211, rfl, b212, b213⟩ := b204
                        have I209 := I199.call J208 (tm_sub (by decide)) (Or.inl rfl)
                        have t214 := J208.up t201
                        have q215 := J208.keep t201 (by decide) q202
                        have t216 := J208.up t203
                        have := mz_hi v211
                        refine mv_if_eqZ (tgt := 155) (a := v211.toInt) d_Grouping_spread_124 (by decide) rfl (fun b217 => ?_) (fun b217 => ?_)
                        · refine mv_aload_n d_Grouping_spread_155 rfl rfl ?_
                          obtain ⟨a219, q218, t_a219⟩ := tm_atR I209 t214 (k := 9) rfl
                          refine tr_getK q218 d_Grouping_spread_156 f_Grouping_28_7 ?_
                          refine mv_iload d_Grouping_spread_159 rfl ?_
                          refine mv_dup2_11 d_Grouping_spread_161 rfl rfl ?_
                          refine tr_iald I209 t_a219 (by decide) d_Grouping_spread_162 (vp_in_iff.mpr (by omega)) (fun v220 => ?_)
                          refine mv_iconst (v := 1) d_Grouping_spread_163 (by decide) ?_
                          refine mv_isub d_Grouping_spread_164 ?_
                          refine tr_iastK tm_okF I209 t_a219 (by decide) (Or.inl (by decide)) d_Grouping_spread_165 (vp_in_iff.mpr (by omega)) (fun M221 I222 K223 => ?_)
                          refine mv_aload_n d_Grouping_spread_166 rfl rfl ?_
                          obtain ⟨a225, q224, t_a225⟩ := tm_atR I222 t214 (k := 11) rfl
                          refine tr_getK q224 d_Grouping_spread_167 f_Grouping_34_7 ?_
                          refine mv_iload d_Grouping_spread_170 rfl ?_
                          refine mv_dup2_11 d_Grouping_spread_172 rfl rfl ?_
                          refine tr_lald I222 t_a225 (by decide) d_Grouping_spread_173 (vp_in_iff.mpr (by omega)) (fun v226 => ?_)
                          refine mv_aload_n d_Grouping_spread_174 rfl rfl ?_
                          obtain ⟨a228, q227, t_a228⟩ := tm_atR I222 t214 (k := 5) rfl
                          refine tr_getK q227 d_Grouping_spread_175 f_Grouping_15_7 ?_
                          refine mv_iload_n d_Grouping_spread_178 rfl rfl ?_
                          refine tr_lald I222 t_a228 (by decide) d_Grouping_spread_179 (vp_in_iff.mpr (by omega)) (fun v229 => ?_)
                          refine mv_lsub d_Grouping_spread_180 ?_
                          refine tr_lastK tm_okF I222 t_a225 (by decide) (Or.inl (by decide)) d_Grouping_spread_181 (vp_in_iff.mpr (by omega)) (fun M230 I231 K232 => ?_)
                          refine mv_aload_n d_Grouping_spread_182 rfl rfl ?_
                          refine tr_getK (k := 10) (K232 _ 7 10 _ (K223 _ 7 10 _ q215)) d_Grouping_spread_183 f_Grouping_31_7 ?_
                          refine mv_iload d_Grouping_spread_186 rfl ?_
                          refine mv_iload d_Grouping_spread_188 rfl ?_
                          refine tr_iastK tm_okF I231 t216 (by decide) (Or.inl (by decide)) d_Grouping_spread_190 (vp_in_iff.mpr (by omega)) (fun M233 I234 K235 => ?_)
                          refine mv_iinc (v := (i5_188 + 1)) (lv' := [(5, .int (i5_188 + 1)), (6, .int v193), (3, .long (if (v12 - v17) < v4 then v4 else (v12 - v17))), (0, .ref o0), (1, .int x1), (2, .int x2)]) d_Grouping_spread_191 rfl rfl (by decide) rfl ?_
                          refine mv_goto (tgt := 89) d_Grouping_spread_194 (by decide) ?_
                          refine mv_locals (lv' := [(5, .int (i5_188 + 1)), (3, .long (if (v12 - v17) < v4 then v4 else (v12 - v17))), (0, .ref o0), (1, .int x1), (2, .int x2)]) (by intro q hq; simp only [List.mem_cons, List.not_mem_nil, or_false] at hq; rcases hq with rfl | rfl | rfl | rfl | rfl <;> rfl) ?_
                          have b236 : (i5_188 + 1).toInt = i5_188.toInt + 1 := mz_addn 1 1 (by decide) (by have := mz_lo i5_188; omega) (by have := mz_hi i5_188; omega)
                          exact (ih188 (i5_188 + 1) T207 M233 n206 I234 t214 (by first | omega | decide) (by omega))
                        · refine mv_aload_n d_Grouping_spread_127 rfl rfl ?_
                          obtain ⟨a238, q237, t_a238⟩ := tm_atR I209 t214 (k := 7) rfl
                          refine tr_getK q237 d_Grouping_spread_128 f_Grouping_22_7 ?_
                          refine mv_iload_n d_Grouping_spread_131 rfl rfl ?_
                          refine mv_iload d_Grouping_spread_132 rfl ?_
                          refine tr_iastK tm_okF I209 t_a238 (by decide) (Or.inl (by decide)) d_Grouping_spread_134 (vp_in_iff.mpr (by omega)) (fun M239 I240 K241 => ?_)
                          refine mv_aload_n d_Grouping_spread_135 rfl rfl ?_
                          refine mv_iload_n d_Grouping_spread_136 rfl rfl ?_
                          refine mv_iconst (v := 1) d_Grouping_spread_137 (by decide) ?_
                          refine mv_iadd d_Grouping_spread_138 ?_
                          refine mv_iload d_Grouping_spread_139 rfl ?_
                          refine mv_iload_n d_Grouping_spread_141 rfl rfl ?_
                          have := mz_hi i5_188
                          have := mz_hi x2
                          refine mv_icmp_neZ (tgt := 151) (a := i5_188.toInt) (b := x2.toInt) d_Grouping_spread_142 (by decide) rfl rfl (fun b242 => ?_) (fun b242 => ?_)
                          · refine mv_iload_n d_Grouping_spread_151 rfl rfl ?_
                            have b243 : (x1 + 1).toInt = x1.toInt + 1 := mz_addn 1 1 (by decide) (by omega) (by omega)
                            obtain ⟨_, b250, -⟩ := I240.1 _ _ t214
                            refine mv_callV (kc' := 0) (ks' := 0) (As := [.int (x1 + 1), .int x2]) (st9 := [.int x2, .int (x1 + 1), .ref o0]) d_Grouping_spread_152 lV_Grouping_77 b250 rfl (tc_Grouping_spread_q2 (d := d) (x9 := x9) (o0 := o0) (x1 := (x1 + 1)) (x2 := x2) t214 (by first | omega | decide) I240.start) rfl (Nat.le_of_ble_eq_true rfl) (Nat.le_of_ble_eq_true rfl) (Nat.le_of_ble_eq_true rfl) (hst := rfl) (fun b244r M245 n246 b244 => ?_)
                            obtain ⟨T247, J248, rfl⟩ := b244
                            have I249 := I240.call J248 (tm_sub (by decide)) (Or.inl rfl)
                            have t251 := J248.up t214
                            have q252 := J248.keep t214 (by decide) (K241 _ 7 10 _ q215)
                            have t253 := J248.up t216
                            have q254 := J248.keep t214 (by decide) (K241 _ 7 7 _ q237)
                            have t255 := J248.up t_a238
                            refine mv_aload_n d_Grouping_spread_155 rfl rfl ?_
                            obtain ⟨a257, q256, t_a257⟩ := tm_atR I249 t251 (k := 9) rfl
                            refine tr_getK q256 d_Grouping_spread_156 f_Grouping_28_7 ?_
                            refine mv_iload d_Grouping_spread_159 rfl ?_
                            refine mv_dup2_11 d_Grouping_spread_161 rfl rfl ?_
                            refine tr_iald I249 t_a257 (by decide) d_Grouping_spread_162 (vp_in_iff.mpr (by omega)) (fun v258 => ?_)
                            refine mv_iconst (v := 1) d_Grouping_spread_163 (by decide) ?_
                            refine mv_isub d_Grouping_spread_164 ?_
                            refine tr_iastK tm_okF I249 t_a257 (by decide) (Or.inl (by decide)) d_Grouping_spread_165 (vp_in_iff.mpr (by omega)) (fun M259 I260 K261 => ?_)
                            refine mv_aload_n d_Grouping_spread_166 rfl rfl ?_
                            obtain ⟨a263, q262, t_a263⟩ := tm_atR I260 t251 (k := 11) rfl
                            refine tr_getK q262 d_Grouping_spread_167 f_Grouping_34_7 ?_
                            refine mv_iload d_Grouping_spread_170 rfl ?_
                            refine mv_dup2_11 d_Grouping_spread_172 rfl rfl ?_
                            refine tr_lald I260 t_a263 (by decide) d_Grouping_spread_173 (vp_in_iff.mpr (by omega)) (fun v264 => ?_)
                            refine mv_aload_n d_Grouping_spread_174 rfl rfl ?_
                            obtain ⟨a266, q265, t_a266⟩ := tm_atR I260 t251 (k := 5) rfl
                            refine tr_getK q265 d_Grouping_spread_175 f_Grouping_15_7 ?_
                            refine mv_iload_n d_Grouping_spread_178 rfl rfl ?_
                            refine tr_lald I260 t_a266 (by decide) d_Grouping_spread_179 (vp_in_iff.mpr (by omega)) (fun v267 => ?_)
                            refine mv_lsub d_Grouping_spread_180 ?_
                            refine tr_lastK tm_okF I260 t_a263 (by decide) (Or.inl (by decide)) d_Grouping_spread_181 (vp_in_iff.mpr (by omega)) (fun M268 I269 K270 => ?_)
                            refine mv_aload_n d_Grouping_spread_182 rfl rfl ?_
                            refine tr_getK (k := 10) (K270 _ 7 10 _ (K261 _ 7 10 _ q252)) d_Grouping_spread_183 f_Grouping_31_7 ?_
                            refine mv_iload d_Grouping_spread_186 rfl ?_
                            refine mv_iload d_Grouping_spread_188 rfl ?_
                            refine tr_iastK tm_okF I269 t253 (by decide) (Or.inl (by decide)) d_Grouping_spread_190 (vp_in_iff.mpr (by omega)) (fun M271 I272 K273 => ?_)
                            refine mv_iinc (v := (i5_188 + 1)) (lv' := [(5, .int (i5_188 + 1)), (6, .int v193), (3, .long (if (v12 - v17) < v4 then v4 else (v12 - v17))), (0, .ref o0), (1, .int x1), (2, .int x2)]) d_Grouping_spread_191 rfl rfl (by decide) rfl ?_
                            refine mv_goto (tgt := 89) d_Grouping_spread_194 (by decide) ?_
                            refine mv_locals (lv' := [(5, .int (i5_188 + 1)), (3, .long (if (v12 - v17) < v4 then v4 else (v12 - v17))), (0, .ref o0), (1, .int x1), (2, .int x2)]) (by intro q hq; simp only [List.mem_cons, List.not_mem_nil, or_false] at hq; rcases hq with rfl | rfl | rfl | rfl | rfl <;> rfl) ?_
                            have b274 : (i5_188 + 1).toInt = i5_188.toInt + 1 := mz_addn 1 1 (by decide) (by have := mz_lo i5_188; omega) (by have := mz_hi i5_188; omega)
                            exact (ih188 (i5_188 + 1) T247 M271 n246 I272 t251 (by first | omega | decide) (by omega))
                          · refine mv_iload_n d_Grouping_spread_145 rfl rfl ?_
                            refine mv_iconst (v := 1) d_Grouping_spread_146 (by decide) ?_
                            refine mv_iadd d_Grouping_spread_147 ?_
                            refine mv_goto (tgt := 152) d_Grouping_spread_148 (by decide) ?_
                            have b275 : (x1 + 1).toInt = x1.toInt + 1 := mz_addn 1 1 (by decide) (by omega) (by omega)
                            obtain ⟨_, b282, -⟩ := I240.1 _ _ t214
                            refine mv_callV (kc' := 0) (ks' := 0) (As := [.int (x1 + 1), .int (x2 + 1)]) (st9 := [.int (x2 + 1), .int (x1 + 1), .ref o0]) d_Grouping_spread_152 lV_Grouping_77 b282 rfl (tc_Grouping_spread_q2 (d := d) (x9 := x9) (o0 := o0) (x1 := (x1 + 1)) (x2 := (x2 + 1)) t214 (by first | omega | decide) I240.start) rfl (Nat.le_of_ble_eq_true rfl) (Nat.le_of_ble_eq_true rfl) (Nat.le_of_ble_eq_true rfl) (hst := rfl) (fun b276r M277 n278 b276 => ?_)
                            obtain ⟨T279, J280, rfl⟩ := b276
                            have I281 := I240.call J280 (tm_sub (by decide)) (Or.inl rfl)
                            have t283 := J280.up t214
                            have q284 := J280.keep t214 (by decide) (K241 _ 7 10 _ q215)
                            have t285 := J280.up t216
                            have q286 := J280.keep t214 (by decide) (K241 _ 7 7 _ q237)
                            have t287 := J280.up t_a238
                            refine mv_aload_n d_Grouping_spread_155 rfl rfl ?_
                            obtain ⟨a289, q288, t_a289⟩ := tm_atR I281 t283 (k := 9) rfl
                            refine tr_getK q288 d_Grouping_spread_156 f_Grouping_28_7 ?_
                            refine mv_iload d_Grouping_spread_159 rfl ?_
                            refine mv_dup2_11 d_Grouping_spread_161 rfl rfl ?_
                            refine tr_iald I281 t_a289 (by decide) d_Grouping_spread_162 (vp_in_iff.mpr (by omega)) (fun v290 => ?_)
                            refine mv_iconst (v := 1) d_Grouping_spread_163 (by decide) ?_
                            refine mv_isub d_Grouping_spread_164 ?_
                            refine tr_iastK tm_okF I281 t_a289 (by decide) (Or.inl (by decide)) d_Grouping_spread_165 (vp_in_iff.mpr (by omega)) (fun M291 I292 K293 => ?_)
                            refine mv_aload_n d_Grouping_spread_166 rfl rfl ?_
                            obtain ⟨a295, q294, t_a295⟩ := tm_atR I292 t283 (k := 11) rfl
                            refine tr_getK q294 d_Grouping_spread_167 f_Grouping_34_7 ?_
                            refine mv_iload d_Grouping_spread_170 rfl ?_
                            refine mv_dup2_11 d_Grouping_spread_172 rfl rfl ?_
                            refine tr_lald I292 t_a295 (by decide) d_Grouping_spread_173 (vp_in_iff.mpr (by omega)) (fun v296 => ?_)
                            refine mv_aload_n d_Grouping_spread_174 rfl rfl ?_
                            obtain ⟨a298, q297, t_a298⟩ := tm_atR I292 t283 (k := 5) rfl
                            refine tr_getK q297 d_Grouping_spread_175 f_Grouping_15_7 ?_
                            refine mv_iload_n d_Grouping_spread_178 rfl rfl ?_
                            refine tr_lald I292 t_a298 (by decide) d_Grouping_spread_179 (vp_in_iff.mpr (by omega)) (fun v299 => ?_)
                            refine mv_lsub d_Grouping_spread_180 ?_
                            refine tr_lastK tm_okF I292 t_a295 (by decide) (Or.inl (by decide)) d_Grouping_spread_181 (vp_in_iff.mpr (by omega)) (fun M300 I301 K302 => ?_)
                            refine mv_aload_n d_Grouping_spread_182 rfl rfl ?_
                            refine tr_getK (k := 10) (K302 _ 7 10 _ (K293 _ 7 10 _ q284)) d_Grouping_spread_183 f_Grouping_31_7 ?_
                            refine mv_iload d_Grouping_spread_186 rfl ?_
                            refine mv_iload d_Grouping_spread_188 rfl ?_
                            refine tr_iastK tm_okF I301 t285 (by decide) (Or.inl (by decide)) d_Grouping_spread_190 (vp_in_iff.mpr (by omega)) (fun M303 I304 K305 => ?_)
                            refine mv_iinc (v := (i5_188 + 1)) (lv' := [(5, .int (i5_188 + 1)), (6, .int v193), (3, .long (if (v12 - v17) < v4 then v4 else (v12 - v17))), (0, .ref o0), (1, .int x1), (2, .int x2)]) d_Grouping_spread_191 rfl rfl (by decide) rfl ?_
                            refine mv_goto (tgt := 89) d_Grouping_spread_194 (by decide) ?_
                            refine mv_locals (lv' := [(5, .int (i5_188 + 1)), (3, .long (if (v12 - v17) < v4 then v4 else (v12 - v17))), (0, .ref o0), (1, .int x1), (2, .int x2)]) (by intro q hq; simp only [List.mem_cons, List.not_mem_nil, or_false] at hq; rcases hq with rfl | rfl | rfl | rfl | rfl <;> rfl) ?_
                            have b306 : (i5_188 + 1).toInt = i5_188.toInt + 1 := mz_addn 1 1 (by decide) (by have := mz_lo i5_188; omega) (by have := mz_hi i5_188; omega)
                            exact (ih188 (i5_188 + 1) T279 M303 n278 I304 t283 (by first | omega | decide) (by omega))
                exact mv_less (Nat.zero_le _) (Nat.zero_le _) (L89_188 4294967296 0 T8 M6 n7 I10 t13 (by first | omega | decide) (by show (2147483647 - (0 : Int) : Int) < _; decide))
              · refine mv_aload_n d_Grouping_spread_79 rfl rfl ?_
                refine mv_lload_n d_Grouping_spread_80 rfl rfl ?_
                refine mv_iload_n d_Grouping_spread_81 rfl rfl ?_
                obtain ⟨_, b313, -⟩ := I10.1 _ _ t13
                refine mv_callV (kc' := 0) (ks' := 0) (As := [.long (if (v12 - v17) < v4 then v4 else (v12 - v17)), .int x2]) (st9 := [.int x2, .long (if (v12 - v17) < v4 then v4 else (v12 - v17)), .ref o0]) d_Grouping_spread_82 lV_Grouping_80 b313 rfl (tc_Grouping_keepAsBest (d := (d + 3)) (x9 := x9) (o0 := o0) (x1 := (if (v12 - v17) < v4 then v4 else (v12 - v17))) (x2 := x2) t13 I10.start) rfl (Nat.le_of_ble_eq_true rfl) (Nat.le_of_ble_eq_true rfl) (Nat.le_of_ble_eq_true rfl) (hst := rfl) (fun b307r M308 n309 b307 => ?_)
                obtain ⟨T310, J311, rfl⟩ := b307
                have I312 := I10.call J311 (tm_sub (by decide)) (Or.inl rfl)
                have t314 := J311.up t13
                have q315 := J311.keep t13 (by decide) q14
                have q316 := J311.keep t13 (by decide) q15
                have t317 := J311.up t_a16
                have q318 := J311.keep t13 (by decide) q172
                exact mv_vret d_Grouping_spread_85 rfl ⟨_, I312, rfl⟩
          · refine mv_iload_n d_Grouping_spread_56 rfl rfl ?_
            refine mv_aload_n d_Grouping_spread_57 rfl rfl ?_
            refine tr_getK (k := 3) q18 d_Grouping_spread_58 f_Grouping_47_7 ?_
            have := mz_hi x2
            have := mz_hi v19
            refine mv_icmp_ltZ (tgt := 65) (a := x2.toInt) (b := v19.toInt) d_Grouping_spread_61 (by decide) rfl rfl (fun b319 => ?_) (fun b319 => ?_)
            · refine mv_iload_n d_Grouping_spread_65 rfl rfl ?_
              refine mv_aload_n d_Grouping_spread_66 rfl rfl ?_
              obtain ⟨v321, q320⟩ := tm_atI I10 t13 (k := 2) rfl
              refine tr_getK q320 d_Grouping_spread_67 f_Grouping_44_7 ?_
              have := mz_hi x1
              have := mz_hi v321
              refine mv_icmp_geZ (tgt := 79) (a := x1.toInt) (b := v321.toInt) d_Grouping_spread_70 (by decide) rfl rfl (fun b322 => ?_) (fun b322 => ?_)
              · refine mv_aload_n d_Grouping_spread_79 rfl rfl ?_
                refine mv_lload_n d_Grouping_spread_80 rfl rfl ?_
                refine mv_iload_n d_Grouping_spread_81 rfl rfl ?_
                obtain ⟨_, b329, -⟩ := I10.1 _ _ t13
                refine mv_callV (kc' := 0) (ks' := 0) (As := [.long (if (v12 - v17) < v4 then v4 else (v12 - v17)), .int x2]) (st9 := [.int x2, .long (if (v12 - v17) < v4 then v4 else (v12 - v17)), .ref o0]) d_Grouping_spread_82 lV_Grouping_80 b329 rfl (tc_Grouping_keepAsBest (d := (d + 3)) (x9 := x9) (o0 := o0) (x1 := (if (v12 - v17) < v4 then v4 else (v12 - v17))) (x2 := x2) t13 I10.start) rfl (Nat.le_of_ble_eq_true rfl) (Nat.le_of_ble_eq_true rfl) (Nat.le_of_ble_eq_true rfl) (hst := rfl) (fun b323r M324 n325 b323 => ?_)
                obtain ⟨T326, J327, rfl⟩ := b323
                have I328 := I10.call J327 (tm_sub (by decide)) (Or.inl rfl)
                have t330 := J327.up t13
                have q331 := J327.keep t13 (by decide) q14
                have q332 := J327.keep t13 (by decide) q15
                have t333 := J327.up t_a16
                have q334 := J327.keep t13 (by decide) q320
                exact mv_vret d_Grouping_spread_85 rfl ⟨_, I328, rfl⟩
              · refine mv_iload_n d_Grouping_spread_73 rfl rfl ?_
                refine mv_bipush (v := 8) d_Grouping_spread_74 (by decide) ?_
                have := mz_hi x1
                refine mv_icmp_neZ (tgt := 86) (a := x1.toInt) (b := 8) d_Grouping_spread_76 (by decide) rfl (by decide) (fun b335 => ?_) (fun b335 => ?_)
                · refine mv_iconst (v := 0) d_Grouping_spread_86 (by decide) ?_
                  refine mv_istore (lv' := [(5, .int 0), (3, .long (if (v12 - v17) < v4 then v4 else (v12 - v17))), (0, .ref o0), (1, .int x1), (2, .int x2)]) d_Grouping_spread_87 (by decide) rfl ?_
                  have L89_336 : ∀ (k : Nat) (i5_336 : Int32) (T_336 : tm_H) (M_336 : mj_M) (n_336 : Nat), tm_I tm_FT (tm_in w_Grouping_spread_q3) x9 T0 M0 n0 T_336 M_336 n_336 → T_336 o0 = some (0, 7, 0) → 0 ≤ i5_336.toInt → 2147483647 - i5_336.toInt < (k : Int) → mj_V g l kY_Grouping_spread (d + 4) 89 [(5, .int i5_336), (3, .long (if (v12 - v17) < v4 then v4 else (v12 - v17))), (0, .ref o0), (1, .int x1), (2, .int x2)] [] M_336 n_336 0 0 (tm_Q tm_FT (tm_in w_Grouping_spread_q3) x9 T0 M0 n0 (fun r _ _ => r = none)) := by
                    intro k336
                    induction k336 with
                    | zero =>
                      intro i5_336 T_336 M_336 n_336 I_336 h_q0_336 iv0_336 hk336
                      have := mz_hi i5_336
                      omega
                    | succ k336 ih336 =>
                      intro i5_336 T_336 M_336 n_336 I_336 h_q0_336 iv0_336 hk336
                      refine mv_iload d_Grouping_spread_89 rfl ?_
                      refine mv_iload_n d_Grouping_spread_91 rfl rfl ?_
                      have := mz_hi i5_336
                      have := mz_hi x2
                      refine mv_icmp_gtZ (tgt := 197) (a := i5_336.toInt) (b := x2.toInt) d_Grouping_spread_92 (by decide) rfl rfl (fun b337 => ?_) (fun b337 => ?_)
                      · exact mv_vret d_Grouping_spread_197 rfl ⟨_, I_336, rfl⟩
                      · refine mv_iload d_Grouping_spread_95 rfl ?_
                        refine mv_bipush (v := 8) d_Grouping_spread_97 (by decide) ?_
                        have := mz_hi i5_336
                        refine mv_icmp_geZ (tgt := 197) (a := i5_336.toInt) (b := 8) d_Grouping_spread_99 (by decide) rfl (by decide) (fun b338 => ?_) (fun b338 => ?_)
                        · exact mv_vret d_Grouping_spread_197 rfl ⟨_, I_336, rfl⟩
                        · refine mv_aload_n d_Grouping_spread_102 rfl rfl ?_
                          obtain ⟨a340, q339, t_a340⟩ := tm_atR I_336 h_q0_336 (k := 10) rfl
                          refine tr_getK q339 d_Grouping_spread_103 f_Grouping_31_7 ?_
                          refine mv_iload d_Grouping_spread_106 rfl ?_
                          refine tr_iald I_336 t_a340 (by decide) d_Grouping_spread_108 (vp_in_iff.mpr (by omega)) (fun v341 => ?_)
                          refine mv_istore (lv' := [(6, .int v341), (5, .int i5_336), (3, .long (if (v12 - v17) < v4 then v4 else (v12 - v17))), (0, .ref o0), (1, .int x1), (2, .int x2)]) d_Grouping_spread_109 (by decide) rfl ?_
                          refine mv_aload_n d_Grouping_spread_111 rfl rfl ?_
                          refine mv_iload_n d_Grouping_spread_112 rfl rfl ?_
                          refine mv_iload d_Grouping_spread_113 rfl ?_
                          obtain ⟨_, b348, -⟩ := I_336.1 _ _ h_q0_336
                          refine mv_callV (kc' := 0) (ks' := 0) (As := [.int x1, .int i5_336]) (st9 := [.int i5_336, .int x1, .ref o0]) d_Grouping_spread_115 lV_Grouping_56 b348 rfl (tc_Grouping_put (d := (d + 3)) (x9 := x9) (o0 := o0) (x1 := x1) (x2 := i5_336) h_q0_336 I_336.start) rfl (Nat.le_of_ble_eq_true rfl) (Nat.le_of_ble_eq_true rfl) (Nat.le_of_ble_eq_true rfl) (hst := rfl) (fun b342r M343 n344 b342 => ?_)
                          obtain ⟨T345, J346, rfl⟩ := b342
                          have I347 := I_336.call J346 (tm_sub (by decide)) (Or.inl rfl)
                          have t349 := J346.up h_q0_336
                          have q350 := J346.keep h_q0_336 (by decide) q339
                          have t351 := J346.up t_a340
                          refine mv_aload_n d_Grouping_spread_118 rfl rfl ?_
                          refine mv_iload d_Grouping_spread_119 rfl ?_
                          obtain ⟨_, b358, -⟩ := I347.1 _ _ t349
                          refine mv_callV (kc' := 0) (ks' := 0) (As := [.int i5_336]) (st9 := [.int i5_336, .ref o0]) d_Grouping_spread_121 lV_Grouping_60 b358 rfl (tc_Grouping_holdsTogether (d := (d + 2)) (x9 := x9) (o0 := o0) (x1 := i5_336) t349 I347.start) rfl (Nat.le_of_ble_eq_true rfl) (Nat.le_of_ble_eq_true rfl) (Nat.le_of_ble_eq_true rfl) (hst := rfl) (fun b352r M353 n354 b352 => ?_)
                          obtain ⟨T355, J356, v359, rfl, b360, b361⟩ := b352
                          have I357 := I347.call J356 (tm_sub (by decide)) (Or.inl rfl)
                          have t362 := J356.up t349
                          have q363 := J356.keep t349 (by decide) q350
                          have t364 := J356.up t351
                          have := mz_hi v359
                          refine mv_if_eqZ (tgt := 155) (a := v359.toInt) d_Grouping_spread_124 (by decide) rfl (fun b365 => ?_) (fun b365 => ?_)
                          · refine mv_aload_n d_Grouping_spread_155 rfl rfl ?_
                            obtain ⟨a367, q366, t_a367⟩ := tm_atR I357 t362 (k := 9) rfl
                            refine tr_getK q366 d_Grouping_spread_156 f_Grouping_28_7 ?_
                            refine mv_iload d_Grouping_spread_159 rfl ?_
                            refine mv_dup2_11 d_Grouping_spread_161 rfl rfl ?_
                            refine tr_iald I357 t_a367 (by decide) d_Grouping_spread_162 (vp_in_iff.mpr (by omega)) (fun v368 => ?_)
                            refine mv_iconst (v := 1) d_Grouping_spread_163 (by decide) ?_
                            refine mv_isub d_Grouping_spread_164 ?_
                            refine tr_iastK tm_okF I357 t_a367 (by decide) (Or.inl (by decide)) d_Grouping_spread_165 (vp_in_iff.mpr (by omega)) (fun M369 I370 K371 => ?_)
                            refine mv_aload_n d_Grouping_spread_166 rfl rfl ?_
                            obtain ⟨a373, q372, t_a373⟩ := tm_atR I370 t362 (k := 11) rfl
                            refine tr_getK q372 d_Grouping_spread_167 f_Grouping_34_7 ?_
                            refine mv_iload d_Grouping_spread_170 rfl ?_
                            refine mv_dup2_11 d_Grouping_spread_172 rfl rfl ?_
                            refine tr_lald I370 t_a373 (by decide) d_Grouping_spread_173 (vp_in_iff.mpr (by omega)) (fun v374 => ?_)
                            refine mv_aload_n d_Grouping_spread_174 rfl rfl ?_
                            obtain ⟨a376, q375, t_a376⟩ := tm_atR I370 t362 (k := 5) rfl
                            refine tr_getK q375 d_Grouping_spread_175 f_Grouping_15_7 ?_
                            refine mv_iload_n d_Grouping_spread_178 rfl rfl ?_
                            refine tr_lald I370 t_a376 (by decide) d_Grouping_spread_179 (vp_in_iff.mpr (by omega)) (fun v377 => ?_)
                            refine mv_lsub d_Grouping_spread_180 ?_
                            refine tr_lastK tm_okF I370 t_a373 (by decide) (Or.inl (by decide)) d_Grouping_spread_181 (vp_in_iff.mpr (by omega)) (fun M378 I379 K380 => ?_)
                            refine mv_aload_n d_Grouping_spread_182 rfl rfl ?_
                            refine tr_getK (k := 10) (K380 _ 7 10 _ (K371 _ 7 10 _ q363)) d_Grouping_spread_183 f_Grouping_31_7 ?_
                            refine mv_iload d_Grouping_spread_186 rfl ?_
                            refine mv_iload d_Grouping_spread_188 rfl ?_
                            refine tr_iastK tm_okF I379 t364 (by decide) (Or.inl (by decide)) d_Grouping_spread_190 (vp_in_iff.mpr (by omega)) (fun M381 I382 K383 => ?_)
                            refine mv_iinc (v := (i5_336 + 1)) (lv' := [(5, .int (i5_336 + 1)), (6, .int v341), (3, .long (if (v12 - v17) < v4 then v4 else (v12 - v17))), (0, .ref o0), (1, .int x1), (2, .int x2)]) d_Grouping_spread_191 rfl rfl (by decide) rfl ?_
                            refine mv_goto (tgt := 89) d_Grouping_spread_194 (by decide) ?_
                            refine mv_locals (lv' := [(5, .int (i5_336 + 1)), (3, .long (if (v12 - v17) < v4 then v4 else (v12 - v17))), (0, .ref o0), (1, .int x1), (2, .int x2)]) (by intro q hq; simp only [List.mem_cons, List.not_mem_nil, or_false] at hq; rcases hq with rfl | rfl | rfl | rfl | rfl <;> rfl) ?_
                            have b384 : (i5_336 + 1).toInt = i5_336.toInt + 1 := mz_addn 1 1 (by decide) (by have := mz_lo i5_336; omega) (by have := mz_hi i5_336; omega)
                            exact (ih336 (i5_336 + 1) T355 M381 n354 I382 t362 (by first | omega | decide) (by omega))
                          · refine mv_aload_n d_Grouping_spread_127 rfl rfl ?_
                            obtain ⟨a386, q385, t_a386⟩ := tm_atR I357 t362 (k := 7) rfl
                            refine tr_getK q385 d_Grouping_spread_128 f_Grouping_22_7 ?_
                            refine mv_iload_n d_Grouping_spread_131 rfl rfl ?_
                            refine mv_iload d_Grouping_spread_132 rfl ?_
                            refine tr_iastK tm_okF I357 t_a386 (by decide) (Or.inl (by decide)) d_Grouping_spread_134 (vp_in_iff.mpr (by omega)) (fun M387 I388 K389 => ?_)
                            refine mv_aload_n d_Grouping_spread_135 rfl rfl ?_
                            refine mv_iload_n d_Grouping_spread_136 rfl rfl ?_
                            refine mv_iconst (v := 1) d_Grouping_spread_137 (by decide) ?_
                            refine mv_iadd d_Grouping_spread_138 ?_
                            refine mv_iload d_Grouping_spread_139 rfl ?_
                            refine mv_iload_n d_Grouping_spread_141 rfl rfl ?_
                            have := mz_hi i5_336
                            have := mz_hi x2
                            refine mv_icmp_neZ (tgt := 151) (a := i5_336.toInt) (b := x2.toInt) d_Grouping_spread_142 (by decide) rfl rfl (fun b390 => ?_) (fun b390 => ?_)
                            · refine mv_iload_n d_Grouping_spread_151 rfl rfl ?_
                              have b391 : (x1 + 1).toInt = x1.toInt + 1 := mz_addn 1 1 (by decide) (by omega) (by omega)
                              obtain ⟨_, b398, -⟩ := I388.1 _ _ t362
                              refine mv_callV (kc' := 0) (ks' := 0) (As := [.int (x1 + 1), .int x2]) (st9 := [.int x2, .int (x1 + 1), .ref o0]) d_Grouping_spread_152 lV_Grouping_77 b398 rfl (tc_Grouping_spread_q2 (d := d) (x9 := x9) (o0 := o0) (x1 := (x1 + 1)) (x2 := x2) t362 (by first | omega | decide) I388.start) rfl (Nat.le_of_ble_eq_true rfl) (Nat.le_of_ble_eq_true rfl) (Nat.le_of_ble_eq_true rfl) (hst := rfl) (fun b392r M393 n394 b392 => ?_)
                              obtain ⟨T395, J396, rfl⟩ := b392
                              have I397 := I388.call J396 (tm_sub (by decide)) (Or.inl rfl)
                              have t399 := J396.up t362
                              have q400 := J396.keep t362 (by decide) (K389 _ 7 10 _ q363)
                              have t401 := J396.up t364
                              have q402 := J396.keep t362 (by decide) (K389 _ 7 7 _ q385)
                              have t403 := J396.up t_a386
                              refine mv_aload_n d_Grouping_spread_155 rfl rfl ?_
                              obtain ⟨a405, q404, t_a405⟩ := tm_atR I397 t399 (k := 9) rfl
                              refine tr_getK q404 d_Grouping_spread_156 f_Grouping_28_7 ?_
                              refine mv_iload d_Grouping_spread_159 rfl ?_
                              refine mv_dup2_11 d_Grouping_spread_161 rfl rfl ?_
                              refine tr_iald I397 t_a405 (by decide) d_Grouping_spread_162 (vp_in_iff.mpr (by omega)) (fun v406 => ?_)
                              refine mv_iconst (v := 1) d_Grouping_spread_163 (by decide) ?_
                              refine mv_isub d_Grouping_spread_164 ?_
                              refine tr_iastK tm_okF I397 t_a405 (by decide) (Or.inl (by decide)) d_Grouping_spread_165 (vp_in_iff.mpr (by omega)) (fun M407 I408 K409 => ?_)
                              refine mv_aload_n d_Grouping_spread_166 rfl rfl ?_
                              obtain ⟨a411, q410, t_a411⟩ := tm_atR I408 t399 (k := 11) rfl
                              refine tr_getK q410 d_Grouping_spread_167 f_Grouping_34_7 ?_
                              refine mv_iload d_Grouping_spread_170 rfl ?_
                              refine mv_dup2_11 d_Grouping_spread_172 rfl rfl ?_
                              refine tr_lald I408 t_a411 (by decide) d_Grouping_spread_173 (vp_in_iff.mpr (by omega)) (fun v412 => ?_)
                              refine mv_aload_n d_Grouping_spread_174 rfl rfl ?_
                              obtain ⟨a414, q413, t_a414⟩ := tm_atR I408 t399 (k := 5) rfl
                              refine tr_getK q413 d_Grouping_spread_175 f_Grouping_15_7 ?_
                              refine mv_iload_n d_Grouping_spread_178 rfl rfl ?_
                              refine tr_lald I408 t_a414 (by decide) d_Grouping_spread_179 (vp_in_iff.mpr (by omega)) (fun v415 => ?_)
                              refine mv_lsub d_Grouping_spread_180 ?_
                              refine tr_lastK tm_okF I408 t_a411 (by decide) (Or.inl (by decide)) d_Grouping_spread_181 (vp_in_iff.mpr (by omega)) (fun M416 I417 K418 => ?_)
                              refine mv_aload_n d_Grouping_spread_182 rfl rfl ?_
                              refine tr_getK (k := 10) (K418 _ 7 10 _ (K409 _ 7 10 _ q400)) d_Grouping_spread_183 f_Grouping_31_7 ?_
                              refine mv_iload d_Grouping_spread_186 rfl ?_
                              refine mv_iload d_Grouping_spread_188 rfl ?_
                              refine tr_iastK tm_okF I417 t401 (by decide) (Or.inl (by decide)) d_Grouping_spread_190 (vp_in_iff.mpr (by omega)) (fun M419 I420 K421 => ?_)
                              refine mv_iinc (v := (i5_336 + 1)) (lv' := [(5, .int (i5_336 + 1)), (6, .int v341), (3, .long (if (v12 - v17) < v4 then v4 else (v12 - v17))), (0, .ref o0), (1, .int x1), (2, .int x2)]) d_Grouping_spread_191 rfl rfl (by decide) rfl ?_
                              refine mv_goto (tgt := 89) d_Grouping_spread_194 (by decide) ?_
                              refine mv_locals (lv' := [(5, .int (i5_336 + 1)), (3, .long (if (v12 - v17) < v4 then v4 else (v12 - v17))), (0, .ref o0), (1, .int x1), (2, .int x2)]) (by intro q hq; simp only [List.mem_cons, List.not_mem_nil, or_false] at hq; rcases hq with rfl | rfl | rfl | rfl | rfl <;> rfl) ?_
                              have b422 : (i5_336 + 1).toInt = i5_336.toInt + 1 := mz_addn 1 1 (by decide) (by have := mz_lo i5_336; omega) (by have := mz_hi i5_336; omega)
                              exact (ih336 (i5_336 + 1) T395 M419 n394 I420 t399 (by first | omega | decide) (by omega))
                            · refine mv_iload_n d_Grouping_spread_145 rfl rfl ?_
                              refine mv_iconst (v := 1) d_Grouping_spread_146 (by decide) ?_
                              refine mv_iadd d_Grouping_spread_147 ?_
                              refine mv_goto (tgt := 152) d_Grouping_spread_148 (by decide) ?_
                              have b423 : (x1 + 1).toInt = x1.toInt + 1 := mz_addn 1 1 (by decide) (by omega) (by omega)
                              obtain ⟨_, b430, -⟩ := I388.1 _ _ t362
                              refine mv_callV (kc' := 0) (ks' := 0) (As := [.int (x1 + 1), .int (x2 + 1)]) (st9 := [.int (x2 + 1), .int (x1 + 1), .ref o0]) d_Grouping_spread_152 lV_Grouping_77 b430 rfl (tc_Grouping_spread_q2 (d := d) (x9 := x9) (o0 := o0) (x1 := (x1 + 1)) (x2 := (x2 + 1)) t362 (by first | omega | decide) I388.start) rfl (Nat.le_of_ble_eq_true rfl) (Nat.le_of_ble_eq_true rfl) (Nat.le_of_ble_eq_true rfl) (hst := rfl) (fun b424r M425 n426 b424 => ?_)
                              obtain ⟨T427, J428, rfl⟩ := b424
                              have I429 := I388.call J428 (tm_sub (by decide)) (Or.inl rfl)
                              have t431 := J428.up t362
                              have q432 := J428.keep t362 (by decide) (K389 _ 7 10 _ q363)
                              have t433 := J428.up t364
                              have q434 := J428.keep t362 (by decide) (K389 _ 7 7 _ q385)
                              have t435 := J428.up t_a386
                              refine mv_aload_n d_Grouping_spread_155 rfl rfl ?_
                              obtain ⟨a437, q436, t_a437⟩ := tm_atR I429 t431 (k := 9) rfl
                              refine tr_getK q436 d_Grouping_spread_156 f_Grouping_28_7 ?_
                              refine mv_iload d_Grouping_spread_159 rfl ?_
                              refine mv_dup2_11 d_Grouping_spread_161 rfl rfl ?_
                              refine tr_iald I429 t_a437 (by decide) d_Grouping_spread_162 (vp_in_iff.mpr (by omega)) (fun v438 => ?_)
                              refine mv_iconst (v := 1) d_Grouping_spread_163 (by decide) ?_
                              refine mv_isub d_Grouping_spread_164 ?_
                              refine tr_iastK tm_okF I429 t_a437 (by decide) (Or.inl (by decide)) d_Grouping_spread_165 (vp_in_iff.mpr (by omega)) (fun M439 I440 K441 => ?_)
                              refine mv_aload_n d_Grouping_spread_166 rfl rfl ?_
                              obtain ⟨a443, q442, t_a443⟩ := tm_atR I440 t431 (k := 11) rfl
                              refine tr_getK q442 d_Grouping_spread_167 f_Grouping_34_7 ?_
                              refine mv_iload d_Grouping_spread_170 rfl ?_
                              refine mv_dup2_11 d_Grouping_spread_172 rfl rfl ?_
                              refine tr_lald I440 t_a443 (by decide) d_Grouping_spread_173 (vp_in_iff.mpr (by omega)) (fun v444 => ?_)
                              refine mv_aload_n d_Grouping_spread_174 rfl rfl ?_
                              obtain ⟨a446, q445, t_a446⟩ := tm_atR I440 t431 (k := 5) rfl
                              refine tr_getK q445 d_Grouping_spread_175 f_Grouping_15_7 ?_
                              refine mv_iload_n d_Grouping_spread_178 rfl rfl ?_
                              refine tr_lald I440 t_a446 (by decide) d_Grouping_spread_179 (vp_in_iff.mpr (by omega)) (fun v447 => ?_)
                              refine mv_lsub d_Grouping_spread_180 ?_
                              refine tr_lastK tm_okF I440 t_a443 (by decide) (Or.inl (by decide)) d_Grouping_spread_181 (vp_in_iff.mpr (by omega)) (fun M448 I449 K450 => ?_)
                              refine mv_aload_n d_Grouping_spread_182 rfl rfl ?_
                              refine tr_getK (k := 10) (K450 _ 7 10 _ (K441 _ 7 10 _ q432)) d_Grouping_spread_183 f_Grouping_31_7 ?_
                              refine mv_iload d_Grouping_spread_186 rfl ?_
                              refine mv_iload d_Grouping_spread_188 rfl ?_
                              refine tr_iastK tm_okF I449 t433 (by decide) (Or.inl (by decide)) d_Grouping_spread_190 (vp_in_iff.mpr (by omega)) (fun M451 I452 K453 => ?_)
                              refine mv_iinc (v := (i5_336 + 1)) (lv' := [(5, .int (i5_336 + 1)), (6, .int v341), (3, .long (if (v12 - v17) < v4 then v4 else (v12 - v17))), (0, .ref o0), (1, .int x1), (2, .int x2)]) d_Grouping_spread_191 rfl rfl (by decide) rfl ?_
                              refine mv_goto (tgt := 89) d_Grouping_spread_194 (by decide) ?_
                              refine mv_locals (lv' := [(5, .int (i5_336 + 1)), (3, .long (if (v12 - v17) < v4 then v4 else (v12 - v17))), (0, .ref o0), (1, .int x1), (2, .int x2)]) (by intro q hq; simp only [List.mem_cons, List.not_mem_nil, or_false] at hq; rcases hq with rfl | rfl | rfl | rfl | rfl <;> rfl) ?_
                              have b454 : (i5_336 + 1).toInt = i5_336.toInt + 1 := mz_addn 1 1 (by decide) (by have := mz_lo i5_336; omega) (by have := mz_hi i5_336; omega)
                              exact (ih336 (i5_336 + 1) T427 M451 n426 I452 t431 (by first | omega | decide) (by omega))
                  exact mv_less (Nat.zero_le _) (Nat.zero_le _) (L89_336 4294967296 0 T8 M6 n7 I10 t13 (by first | omega | decide) (by show (2147483647 - (0 : Int) : Int) < _; decide))
                · refine mv_aload_n d_Grouping_spread_79 rfl rfl ?_
                  refine mv_lload_n d_Grouping_spread_80 rfl rfl ?_
                  refine mv_iload_n d_Grouping_spread_81 rfl rfl ?_
                  obtain ⟨_, b461, -⟩ := I10.1 _ _ t13
                  refine mv_callV (kc' := 0) (ks' := 0) (As := [.long (if (v12 - v17) < v4 then v4 else (v12 - v17)), .int x2]) (st9 := [.int x2, .long (if (v12 - v17) < v4 then v4 else (v12 - v17)), .ref o0]) d_Grouping_spread_82 lV_Grouping_80 b461 rfl (tc_Grouping_keepAsBest (d := (d + 3)) (x9 := x9) (o0 := o0) (x1 := (if (v12 - v17) < v4 then v4 else (v12 - v17))) (x2 := x2) t13 I10.start) rfl (Nat.le_of_ble_eq_true rfl) (Nat.le_of_ble_eq_true rfl) (Nat.le_of_ble_eq_true rfl) (hst := rfl) (fun b455r M456 n457 b455 => ?_)
                  obtain ⟨T458, J459, rfl⟩ := b455
                  have I460 := I10.call J459 (tm_sub (by decide)) (Or.inl rfl)
                  have t462 := J459.up t13
                  have q463 := J459.keep t13 (by decide) q14
                  have q464 := J459.keep t13 (by decide) q15
                  have t465 := J459.up t_a16
                  have q466 := J459.keep t13 (by decide) q320
                  exact mv_vret d_Grouping_spread_85 rfl ⟨_, I460, rfl⟩
            · exact mv_vret d_Grouping_spread_64 rfl ⟨_, I10, rfl⟩
    · exact mv_vret d_Grouping_spread_10 rfl ⟨_, I0, rfl⟩
def w_Grouping_spread_q4 : List Nat := [700, 703, 757, 758, 759, 760, 761]
theorem tc_Grouping_spread_q4 {g : mj_G} {l : Launch} {d : Nat} {T0 : tm_H} {M0 : mj_M} {n0 x9 : Nat} {o0 : Nat} {x1 : Int32} {x2 : Int32} (h_o0 : T0 o0 = some (0, 7, 0)) (hp : 5 ≤ x1.toInt) (I0 : tm_I tm_FT (tm_in w_Grouping_spread_q4) x9 T0 M0 n0 T0 M0 n0) : mj_Met g l kY_Grouping_spread (d + 5) [.ref o0, .int x1, .int x2] M0 n0 0 0 (tm_Q tm_FT (tm_in w_Grouping_spread_q4) x9 T0 M0 n0 (fun r _ _ => r = none)) := by
  refine mj_enter (by decide) (Nat.le_of_ble_eq_true rfl) ?_
  refine mv_iload_n d_Grouping_spread_0 rfl rfl ?_
  have := mz_hi x1
  refine mv_if_ltZ (tgt := 10) (a := x1.toInt) d_Grouping_spread_1 (by decide) rfl (fun b1 => ?_) (fun b1 => ?_)
  · exact mv_vret d_Grouping_spread_10 rfl ⟨_, I0, rfl⟩
  · refine mv_iload_n d_Grouping_spread_4 rfl rfl ?_
    refine mv_bipush (v := 8) d_Grouping_spread_5 (by decide) ?_
    have := mz_hi x1
    refine mv_icmp_leZ (tgt := 11) (a := x1.toInt) (b := 8) d_Grouping_spread_7 (by decide) rfl (by decide) (fun b2 => ?_) (fun b2 => ?_)
    · refine mv_aload_n d_Grouping_spread_11 rfl rfl ?_
      obtain ⟨v4, q3⟩ := tm_atL I0 h_o0 (k := 13) rfl
      refine tr_getK q3 d_Grouping_spread_12 f_Grouping_74_7 ?_
      refine mv_aload_n d_Grouping_spread_15 rfl rfl ?_
      refine mv_iload_n d_Grouping_spread_16 rfl rfl ?_
      obtain ⟨_, b11, -⟩ := I0.1 _ _ h_o0
      refine mv_callV (kc' := 0) (ks' := 0) (As := [.int x2]) (st9 := [.int x2, .ref o0, .long v4]) d_Grouping_spread_17 lV_Grouping_64 b11 rfl (tc_Grouping_idleOf (d := (d + 3)) (x9 := x9) (o0 := o0) (x1 := x2) h_o0 I0.start) rfl (Nat.le_of_ble_eq_true rfl) (Nat.le_of_ble_eq_true rfl) (Nat.le_of_ble_eq_true rfl) (hst := rfl) (fun b5r M6 n7 b5 => ?_)
      obtain ⟨T8, J9, v12, rfl⟩ := b5
      have I10 := I0.call J9 (tm_sub (by decide)) (Or.inl rfl)
      have t13 := J9.up h_o0
      have q14 := J9.keep h_o0 (by decide) q3
      refine mv_aload_n d_Grouping_spread_20 rfl rfl ?_
      obtain ⟨a16, q15, t_a16⟩ := tm_atR I10 t13 (k := 12) rfl
      refine tr_getK q15 d_Grouping_spread_21 f_Grouping_37_7 ?_
      refine mv_iload_n d_Grouping_spread_24 rfl rfl ?_
      refine tr_lald I10 t_a16 (by decide) d_Grouping_spread_25 (vp_in_iff.mpr (by omega)) (fun v17 => ?_)
      refine mv_lsub d_Grouping_spread_26 ?_
      refine mv_mmax_long (v := (if (v12 - v17) < v4 then v4 else (v12 - v17))) d_Grouping_spread_27 (mj_in1 (List.mem_of_getElem? (i := 1243) (by decide +kernel)) rfl) (Nat.le_of_ble_eq_true rfl) rfl ?_
      refine mv_lstore_n (lv' := [(3, .long (if (v12 - v17) < v4 then v4 else (v12 - v17))), (0, .ref o0), (1, .int x1), (2, .int x2)]) d_Grouping_spread_30 rfl (by decide) rfl ?_
      refine mv_aload_n d_Grouping_spread_31 rfl rfl ?_
      obtain ⟨v19, q18⟩ := tm_atI I10 t13 (k := 3) rfl
      refine tr_getK q18 d_Grouping_spread_32 f_Grouping_47_7 ?_
      have := mz_hi v19
      refine mv_if_eqZ (tgt := 65) (a := v19.toInt) d_Grouping_spread_35 (by decide) rfl (fun b20 => ?_) (fun b20 => ?_)
      · refine mv_iload_n d_Grouping_spread_65 rfl rfl ?_
        refine mv_aload_n d_Grouping_spread_66 rfl rfl ?_
        obtain ⟨v22, q21⟩ := tm_atI I10 t13 (k := 2) rfl
        refine tr_getK q21 d_Grouping_spread_67 f_Grouping_44_7 ?_
        have := mz_hi x1
        have := mz_hi v22
        refine mv_icmp_geZ (tgt := 79) (a := x1.toInt) (b := v22.toInt) d_Grouping_spread_70 (by decide) rfl rfl (fun b23 => ?_) (fun b23 => ?_)
        · refine mv_aload_n d_Grouping_spread_79 rfl rfl ?_
          refine mv_lload_n d_Grouping_spread_80 rfl rfl ?_
          refine mv_iload_n d_Grouping_spread_81 rfl rfl ?_
          obtain ⟨_, b30, -⟩ := I10.1 _ _ t13
          refine mv_callV (kc' := 0) (ks' := 0) (As := [.long (if (v12 - v17) < v4 then v4 else (v12 - v17)), .int x2]) (st9 := [.int x2, .long (if (v12 - v17) < v4 then v4 else (v12 - v17)), .ref o0]) d_Grouping_spread_82 lV_Grouping_80 b30 rfl (tc_Grouping_keepAsBest (d := (d + 4)) (x9 := x9) (o0 := o0) (x1 := (if (v12 - v17) < v4 then v4 else (v12 - v17))) (x2 := x2) t13 I10.start) rfl (Nat.le_of_ble_eq_true rfl) (Nat.le_of_ble_eq_true rfl) (Nat.le_of_ble_eq_true rfl) (hst := rfl) (fun b24r M25 n26 b24 => ?_)
          obtain ⟨T27, J28, rfl⟩ := b24
          have I29 := I10.call J28 (tm_sub (by decide)) (Or.inl rfl)
          have t31 := J28.up t13
          have q32 := J28.keep t13 (by decide) q14
          have q33 := J28.keep t13 (by decide) q15
          have t34 := J28.up t_a16
          have q35 := J28.keep t13 (by decide) q21
          exact mv_vret d_Grouping_spread_85 rfl ⟨_, I29, rfl⟩
        · refine mv_iload_n d_Grouping_spread_73 rfl rfl ?_
          refine mv_bipush (v := 8) d_Grouping_spread_74 (by decide) ?_
          have := mz_hi x1
          refine mv_icmp_neZ (tgt := 86) (a := x1.toInt) (b := 8) d_Grouping_spread_76 (by decide) rfl (by decide) (fun b36 => ?_) (fun b36 => ?_)
          · refine mv_iconst (v := 0) d_Grouping_spread_86 (by decide) ?_
            refine mv_istore (lv' := [(5, .int 0), (3, .long (if (v12 - v17) < v4 then v4 else (v12 - v17))), (0, .ref o0), (1, .int x1), (2, .int x2)]) d_Grouping_spread_87 (by decide) rfl ?_
            have L89_37 : ∀ (k : Nat) (i5_37 : Int32) (T_37 : tm_H) (M_37 : mj_M) (n_37 : Nat), tm_I tm_FT (tm_in w_Grouping_spread_q4) x9 T0 M0 n0 T_37 M_37 n_37 → T_37 o0 = some (0, 7, 0) → 0 ≤ i5_37.toInt → 2147483647 - i5_37.toInt < (k : Int) → mj_V g l kY_Grouping_spread (d + 5) 89 [(5, .int i5_37), (3, .long (if (v12 - v17) < v4 then v4 else (v12 - v17))), (0, .ref o0), (1, .int x1), (2, .int x2)] [] M_37 n_37 0 0 (tm_Q tm_FT (tm_in w_Grouping_spread_q4) x9 T0 M0 n0 (fun r _ _ => r = none)) := by
              intro k37
              induction k37 with
              | zero =>
                intro i5_37 T_37 M_37 n_37 I_37 h_q0_37 iv0_37 hk37
                have := mz_hi i5_37
                omega
              | succ k37 ih37 =>
                intro i5_37 T_37 M_37 n_37 I_37 h_q0_37 iv0_37 hk37
                refine mv_iload d_Grouping_spread_89 rfl ?_
                refine mv_iload_n d_Grouping_spread_91 rfl rfl ?_
                have := mz_hi i5_37
                have := mz_hi x2
                refine mv_icmp_gtZ (tgt := 197) (a := i5_37.toInt) (b := x2.toInt) d_Grouping_spread_92 (by decide) rfl rfl (fun b38 => ?_) (fun b38 => ?_)
                · exact mv_vret d_Grouping_spread_197 rfl ⟨_, I_37, rfl⟩
                · refine mv_iload d_Grouping_spread_95 rfl ?_
                  refine mv_bipush (v := 8) d_Grouping_spread_97 (by decide) ?_
                  have := mz_hi i5_37
                  refine mv_icmp_geZ (tgt := 197) (a := i5_37.toInt) (b := 8) d_Grouping_spread_99 (by decide) rfl (by decide) (fun b39 => ?_) (fun b39 => ?_)
                  · exact mv_vret d_Grouping_spread_197 rfl ⟨_, I_37, rfl⟩
                  · refine mv_aload_n d_Grouping_spread_102 rfl rfl ?_
                    obtain ⟨a41, q40, t_a41⟩ := tm_atR I_37 h_q0_37 (k := 10) rfl
                    refine tr_getK q40 d_Grouping_spread_103 f_Grouping_31_7 ?_
                    refine mv_iload d_Grouping_spread_106 rfl ?_
                    refine tr_iald I_37 t_a41 (by decide) d_Grouping_spread_108 (vp_in_iff.mpr (by omega)) (fun v42 => ?_)
                    refine mv_istore (lv' := [(6, .int v42), (5, .int i5_37), (3, .long (if (v12 - v17) < v4 then v4 else (v12 - v17))), (0, .ref o0), (1, .int x1), (2, .int x2)]) d_Grouping_spread_109 (by decide) rfl ?_
                    refine mv_aload_n d_Grouping_spread_111 rfl rfl ?_
                    refine mv_iload_n d_Grouping_spread_112 rfl rfl ?_
                    refine mv_iload d_Grouping_spread_113 rfl ?_
                    obtain ⟨_, b49, -⟩ := I_37.1 _ _ h_q0_37
                    refine mv_callV (kc' := 0) (ks' := 0) (As := [.int x1, .int i5_37]) (st9 := [.int i5_37, .int x1, .ref o0]) d_Grouping_spread_115 lV_Grouping_56 b49 rfl (tc_Grouping_put (d := (d + 4)) (x9 := x9) (o0 := o0) (x1 := x1) (x2 := i5_37) h_q0_37 I_37.start) rfl (Nat.le_of_ble_eq_true rfl) (Nat.le_of_ble_eq_true rfl) (Nat.le_of_ble_eq_true rfl) (hst := rfl) (fun b43r M44 n45 b43 => ?_)
                    obtain ⟨T46, J47, rfl⟩ := b43
                    have I48 := I_37.call J47 (tm_sub (by decide)) (Or.inl rfl)
                    have t50 := J47.up h_q0_37
                    have q51 := J47.keep h_q0_37 (by decide) q40
                    have t52 := J47.up t_a41
                    refine mv_aload_n d_Grouping_spread_118 rfl rfl ?_
                    refine mv_iload d_Grouping_spread_119 rfl ?_
                    obtain ⟨_, b59, -⟩ := I48.1 _ _ t50
                    refine mv_callV (kc' := 0) (ks' := 0) (As := [.int i5_37]) (st9 := [.int i5_37, .ref o0]) d_Grouping_spread_121 lV_Grouping_60 b59 rfl (tc_Grouping_holdsTogether (d := (d + 3)) (x9 := x9) (o0 := o0) (x1 := i5_37) t50 I48.start) rfl (Nat.le_of_ble_eq_true rfl) (Nat.le_of_ble_eq_true rfl) (Nat.le_of_ble_eq_true rfl) (hst := rfl) (fun b53r M54 n55 b53 => ?_)
                    obtain ⟨T56, J57, v60, rfl, b61, b62⟩ := b53
                    have I58 := I48.call J57 (tm_sub (by decide)) (Or.inl rfl)
                    have t63 := J57.up t50
                    have q64 := J57.keep t50 (by decide) q51
                    have t65 := J57.up t52
                    have := mz_hi v60
                    refine mv_if_eqZ (tgt := 155) (a := v60.toInt) d_Grouping_spread_124 (by decide) rfl (fun b66 => ?_) (fun b66 => ?_)
                    · refine mv_aload_n d_Grouping_spread_155 rfl rfl ?_
                      obtain ⟨a68, q67, t_a68⟩ := tm_atR I58 t63 (k := 9) rfl
                      refine tr_getK q67 d_Grouping_spread_156 f_Grouping_28_7 ?_
                      refine mv_iload d_Grouping_spread_159 rfl ?_
                      refine mv_dup2_11 d_Grouping_spread_161 rfl rfl ?_
                      refine tr_iald I58 t_a68 (by decide) d_Grouping_spread_162 (vp_in_iff.mpr (by omega)) (fun v69 => ?_)
                      refine mv_iconst (v := 1) d_Grouping_spread_163 (by decide) ?_
                      refine mv_isub d_Grouping_spread_164 ?_
                      refine tr_iastK tm_okF I58 t_a68 (by decide) (Or.inl (by decide)) d_Grouping_spread_165 (vp_in_iff.mpr (by omega)) (fun M70 I71 K72 => ?_)
                      refine mv_aload_n d_Grouping_spread_166 rfl rfl ?_
                      obtain ⟨a74, q73, t_a74⟩ := tm_atR I71 t63 (k := 11) rfl
                      refine tr_getK q73 d_Grouping_spread_167 f_Grouping_34_7 ?_
                      refine mv_iload d_Grouping_spread_170 rfl ?_
                      refine mv_dup2_11 d_Grouping_spread_172 rfl rfl ?_
                      refine tr_lald I71 t_a74 (by decide) d_Grouping_spread_173 (vp_in_iff.mpr (by omega)) (fun v75 => ?_)
                      refine mv_aload_n d_Grouping_spread_174 rfl rfl ?_
                      obtain ⟨a77, q76, t_a77⟩ := tm_atR I71 t63 (k := 5) rfl
                      refine tr_getK q76 d_Grouping_spread_175 f_Grouping_15_7 ?_
                      refine mv_iload_n d_Grouping_spread_178 rfl rfl ?_
                      refine tr_lald I71 t_a77 (by decide) d_Grouping_spread_179 (vp_in_iff.mpr (by omega)) (fun v78 => ?_)
                      refine mv_lsub d_Grouping_spread_180 ?_
                      refine tr_lastK tm_okF I71 t_a74 (by decide) (Or.inl (by decide)) d_Grouping_spread_181 (vp_in_iff.mpr (by omega)) (fun M79 I80 K81 => ?_)
                      refine mv_aload_n d_Grouping_spread_182 rfl rfl ?_
                      refine tr_getK (k := 10) (K81 _ 7 10 _ (K72 _ 7 10 _ q64)) d_Grouping_spread_183 f_Grouping_31_7 ?_
                      refine mv_iload d_Grouping_spread_186 rfl ?_
                      refine mv_iload d_Grouping_spread_188 rfl ?_
                      refine tr_iastK tm_okF I80 t65 (by decide) (Or.inl (by decide)) d_Grouping_spread_190 (vp_in_iff.mpr (by omega)) (fun M82 I83 K84 => ?_)
                      refine mv_iinc (v := (i5_37 + 1)) (lv' := [(5, .int (i5_37 + 1)), (6, .int v42), (3, .long (if (v12 - v17) < v4 then v4 else (v12 - v17))), (0, .ref o0), (1, .int x1), (2, .int x2)]) d_Grouping_spread_191 rfl rfl (by decide) rfl ?_
                      refine mv_goto (tgt := 89) d_Grouping_spread_194 (by decide) ?_
                      refine mv_locals (lv' := [(5, .int (i5_37 + 1)), (3, .long (if (v12 - v17) < v4 then v4 else (v12 - v17))), (0, .ref o0), (1, .int x1), (2, .int x2)]) (by intro q hq; simp only [List.mem_cons, List.not_mem_nil, or_false] at hq; rcases hq with rfl | rfl | rfl | rfl | rfl <;> rfl) ?_
                      have b85 : (i5_37 + 1).toInt = i5_37.toInt + 1 := mz_addn 1 1 (by decide) (by have := mz_lo i5_37; omega) (by have := mz_hi i5_37; omega)
                      exact (ih37 (i5_37 + 1) T56 M82 n55 I83 t63 (by first | omega | decide) (by omega))
                    · refine mv_aload_n d_Grouping_spread_127 rfl rfl ?_
                      obtain ⟨a87, q86, t_a87⟩ := tm_atR I58 t63 (k := 7) rfl
                      refine tr_getK q86 d_Grouping_spread_128 f_Grouping_22_7 ?_
                      refine mv_iload_n d_Grouping_spread_131 rfl rfl ?_
                      refine mv_iload d_Grouping_spread_132 rfl ?_
                      refine tr_iastK tm_okF I58 t_a87 (by decide) (Or.inl (by decide)) d_Grouping_spread_134 (vp_in_iff.mpr (by omega)) (fun M88 I89 K90 => ?_)
                      refine mv_aload_n d_Grouping_spread_135 rfl rfl ?_
                      refine mv_iload_n d_Grouping_spread_136 rfl rfl ?_
                      refine mv_iconst (v := 1) d_Grouping_spread_137 (by decide) ?_
                      refine mv_iadd d_Grouping_spread_138 ?_
                      refine mv_iload d_Grouping_spread_139 rfl ?_
                      refine mv_iload_n d_Grouping_spread_141 rfl rfl ?_
                      have := mz_hi i5_37
                      have := mz_hi x2
                      refine mv_icmp_neZ (tgt := 151) (a := i5_37.toInt) (b := x2.toInt) d_Grouping_spread_142 (by decide) rfl rfl (fun b91 => ?_) (fun b91 => ?_)
                      · refine mv_iload_n d_Grouping_spread_151 rfl rfl ?_
                        have b92 : (x1 + 1).toInt = x1.toInt + 1 := mz_addn 1 1 (by decide) (by omega) (by omega)
                        obtain ⟨_, b99, -⟩ := I89.1 _ _ t63
                        refine mv_callV (kc' := 0) (ks' := 0) (As := [.int (x1 + 1), .int x2]) (st9 := [.int x2, .int (x1 + 1), .ref o0]) d_Grouping_spread_152 lV_Grouping_77 b99 rfl (tc_Grouping_spread_q3 (d := d) (x9 := x9) (o0 := o0) (x1 := (x1 + 1)) (x2 := x2) t63 (by first | omega | decide) I89.start) rfl (Nat.le_of_ble_eq_true rfl) (Nat.le_of_ble_eq_true rfl) (Nat.le_of_ble_eq_true rfl) (hst := rfl) (fun b93r M94 n95 b93 => ?_)
                        obtain ⟨T96, J97, rfl⟩ := b93
                        have I98 := I89.call J97 (tm_sub (by decide)) (Or.inl rfl)
                        have t100 := J97.up t63
                        have q101 := J97.keep t63 (by decide) (K90 _ 7 10 _ q64)
                        have t102 := J97.up t65
                        have q103 := J97.keep t63 (by decide) (K90 _ 7 7 _ q86)
                        have t104 := J97.up t_a87
                        refine mv_aload_n d_Grouping_spread_155 rfl rfl ?_
                        obtain ⟨a106, q105, t_a106⟩ := tm_atR I98 t100 (k := 9) rfl
                        refine tr_getK q105 d_Grouping_spread_156 f_Grouping_28_7 ?_
                        refine mv_iload d_Grouping_spread_159 rfl ?_
                        refine mv_dup2_11 d_Grouping_spread_161 rfl rfl ?_
                        refine tr_iald I98 t_a106 (by decide) d_Grouping_spread_162 (vp_in_iff.mpr (by omega)) (fun v107 => ?_)
                        refine mv_iconst (v := 1) d_Grouping_spread_163 (by decide) ?_
                        refine mv_isub d_Grouping_spread_164 ?_
                        refine tr_iastK tm_okF I98 t_a106 (by decide) (Or.inl (by decide)) d_Grouping_spread_165 (vp_in_iff.mpr (by omega)) (fun M108 I109 K110 => ?_)
                        refine mv_aload_n d_Grouping_spread_166 rfl rfl ?_
                        obtain ⟨a112, q111, t_a112⟩ := tm_atR I109 t100 (k := 11) rfl
                        refine tr_getK q111 d_Grouping_spread_167 f_Grouping_34_7 ?_
                        refine mv_iload d_Grouping_spread_170 rfl ?_
                        refine mv_dup2_11 d_Grouping_spread_172 rfl rfl ?_
                        refine tr_lald I109 t_a112 (by decide) d_Grouping_spread_173 (vp_in_iff.mpr (by omega)) (fun v113 => ?_)
                        refine mv_aload_n d_Grouping_spread_174 rfl rfl ?_
                        obtain ⟨a115, q114, t_a115⟩ := tm_atR I109 t100 (k := 5) rfl
                        refine tr_getK q114 d_Grouping_spread_175 f_Grouping_15_7 ?_
                        refine mv_iload_n d_Grouping_spread_178 rfl rfl ?_
                        refine tr_lald I109 t_a115 (by decide) d_Grouping_spread_179 (vp_in_iff.mpr (by omega)) (fun v116 => ?_)
                        refine mv_lsub d_Grouping_spread_180 ?_
                        refine tr_lastK tm_okF I109 t_a112 (by decide) (Or.inl (by decide)) d_Grouping_spread_181 (vp_in_iff.mpr (by omega)) (fun M117 I118 K119 => ?_)
                        refine mv_aload_n d_Grouping_spread_182 rfl rfl ?_
                        refine tr_getK (k := 10) (K119 _ 7 10 _ (K110 _ 7 10 _ q101)) d_Grouping_spread_183 f_Grouping_31_7 ?_
                        refine mv_iload d_Grouping_spread_186 rfl ?_
                        refine mv_iload d_Grouping_spread_188 rfl ?_
                        refine tr_iastK tm_okF I118 t102 (by decide) (Or.inl (by decide)) d_Grouping_spread_190 (vp_in_iff.mpr (by omega)) (fun M120 I121 K122 => ?_)
                        refine mv_iinc (v := (i5_37 + 1)) (lv' := [(5, .int (i5_37 + 1)), (6, .int v42), (3, .long (if (v12 - v17) < v4 then v4 else (v12 - v17))), (0, .ref o0), (1, .int x1), (2, .int x2)]) d_Grouping_spread_191 rfl rfl (by decide) rfl ?_
                        refine mv_goto (tgt := 89) d_Grouping_spread_194 (by decide) ?_
                        refine mv_locals (lv' := [(5, .int (i5_37 + 1)), (3, .long (if (v12 - v17) < v4 then v4 else (v12 - v17))), (0, .ref o0), (1, .int x1), (2, .int x2)]) (by intro q hq; simp only [List.mem_cons, List.not_mem_nil, or_false] at hq; rcases hq with rfl | rfl | rfl | rfl | rfl <;> rfl) ?_
                        have b123 : (i5_37 + 1).toInt = i5_37.toInt + 1 := mz_addn 1 1 (by decide) (by have := mz_lo i5_37; omega) (by have := mz_hi i5_37; omega)
                        exact (ih37 (i5_37 + 1) T96 M120 n95 I121 t100 (by first | omega | decide) (by omega))
                      · refine mv_iload_n d_Grouping_spread_145 rfl rfl ?_
                        refine mv_iconst (v := 1) d_Grouping_spread_146 (by decide) ?_
                        refine mv_iadd d_Grouping_spread_147 ?_
                        refine mv_goto (tgt := 152) d_Grouping_spread_148 (by decide) ?_
                        have b124 : (x1 + 1).toInt = x1.toInt + 1 := mz_addn 1 1 (by decide) (by omega) (by omega)
                        obtain ⟨_, b131, -⟩ := I89.1 _ _ t63
                        refine mv_callV (kc' := 0) (ks' := 0) (As := [.int (x1 + 1), .int (x2 + 1)]) (st9 := [.int (x2 + 1), .int (x1 + 1), .ref o0]) d_Grouping_spread_152 lV_Grouping_77 b131 rfl (tc_Grouping_spread_q3 (d := d) (x9 := x9) (o0 := o0) (x1 := (x1 + 1)) (x2 := (x2 + 1)) t63 (by first | omega | decide) I89.start) rfl (Nat.le_of_ble_eq_true rfl) (Nat.le_of_ble_eq_true rfl) (Nat.le_of_ble_eq_true rfl) (hst := rfl) (fun b125r M126 n127 b125 => ?_)
                        obtain ⟨T128, J129, rfl⟩ := b125
                        have I130 := I89.call J129 (tm_sub (by decide)) (Or.inl rfl)
                        have t132 := J129.up t63
                        have q133 := J129.keep t63 (by decide) (K90 _ 7 10 _ q64)
                        have t134 := J129.up t65
                        have q135 := J129.keep t63 (by decide) (K90 _ 7 7 _ q86)
                        have t136 := J129.up t_a87
                        refine mv_aload_n d_Grouping_spread_155 rfl rfl ?_
                        obtain ⟨a138, q137, t_a138⟩ := tm_atR I130 t132 (k := 9) rfl
                        refine tr_getK q137 d_Grouping_spread_156 f_Grouping_28_7 ?_
                        refine mv_iload d_Grouping_spread_159 rfl ?_
                        refine mv_dup2_11 d_Grouping_spread_161 rfl rfl ?_
                        refine tr_iald I130 t_a138 (by decide) d_Grouping_spread_162 (vp_in_iff.mpr (by omega)) (fun v139 => ?_)
                        refine mv_iconst (v := 1) d_Grouping_spread_163 (by decide) ?_
                        refine mv_isub d_Grouping_spread_164 ?_
                        refine tr_iastK tm_okF I130 t_a138 (by decide) (Or.inl (by decide)) d_Grouping_spread_165 (vp_in_iff.mpr (by omega)) (fun M140 I141 K142 => ?_)
                        refine mv_aload_n d_Grouping_spread_166 rfl rfl ?_
                        obtain ⟨a144, q143, t_a144⟩ := tm_atR I141 t132 (k := 11) rfl
                        refine tr_getK q143 d_Grouping_spread_167 f_Grouping_34_7 ?_
                        refine mv_iload d_Grouping_spread_170 rfl ?_
                        refine mv_dup2_11 d_Grouping_spread_172 rfl rfl ?_
                        refine tr_lald I141 t_a144 (by decide) d_Grouping_spread_173 (vp_in_iff.mpr (by omega)) (fun v145 => ?_)
                        refine mv_aload_n d_Grouping_spread_174 rfl rfl ?_
                        obtain ⟨a147, q146, t_a147⟩ := tm_atR I141 t132 (k := 5) rfl
                        refine tr_getK q146 d_Grouping_spread_175 f_Grouping_15_7 ?_
                        refine mv_iload_n d_Grouping_spread_178 rfl rfl ?_
                        refine tr_lald I141 t_a147 (by decide) d_Grouping_spread_179 (vp_in_iff.mpr (by omega)) (fun v148 => ?_)
                        refine mv_lsub d_Grouping_spread_180 ?_
                        refine tr_lastK tm_okF I141 t_a144 (by decide) (Or.inl (by decide)) d_Grouping_spread_181 (vp_in_iff.mpr (by omega)) (fun M149 I150 K151 => ?_)
                        refine mv_aload_n d_Grouping_spread_182 rfl rfl ?_
                        refine tr_getK (k := 10) (K151 _ 7 10 _ (K142 _ 7 10 _ q133)) d_Grouping_spread_183 f_Grouping_31_7 ?_
                        refine mv_iload d_Grouping_spread_186 rfl ?_
                        refine mv_iload d_Grouping_spread_188 rfl ?_
                        refine tr_iastK tm_okF I150 t134 (by decide) (Or.inl (by decide)) d_Grouping_spread_190 (vp_in_iff.mpr (by omega)) (fun M152 I153 K154 => ?_)
                        refine mv_iinc (v := (i5_37 + 1)) (lv' := [(5, .int (i5_37 + 1)), (6, .int v42), (3, .long (if (v12 - v17) < v4 then v4 else (v12 - v17))), (0, .ref o0), (1, .int x1), (2, .int x2)]) d_Grouping_spread_191 rfl rfl (by decide) rfl ?_
                        refine mv_goto (tgt := 89) d_Grouping_spread_194 (by decide) ?_
                        refine mv_locals (lv' := [(5, .int (i5_37 + 1)), (3, .long (if (v12 - v17) < v4 then v4 else (v12 - v17))), (0, .ref o0), (1, .int x1), (2, .int x2)]) (by intro q hq; simp only [List.mem_cons, List.not_mem_nil, or_false] at hq; rcases hq with rfl | rfl | rfl | rfl | rfl <;> rfl) ?_
                        have b155 : (i5_37 + 1).toInt = i5_37.toInt + 1 := mz_addn 1 1 (by decide) (by have := mz_lo i5_37; omega) (by have := mz_hi i5_37; omega)
                        exact (ih37 (i5_37 + 1) T128 M152 n127 I153 t132 (by first | omega | decide) (by omega))
            exact mv_less (Nat.zero_le _) (Nat.zero_le _) (L89_37 4294967296 0 T8 M6 n7 I10 t13 (by first | omega | decide) (by show (2147483647 - (0 : Int) : Int) < _; decide))
          · refine mv_aload_n d_Grouping_spread_79 rfl rfl ?_
            refine mv_lload_n d_Grouping_spread_80 rfl rfl ?_
            refine mv_iload_n d_Grouping_spread_81 rfl rfl ?_
            obtain ⟨_, b162, -⟩ := I10.1 _ _ t13
            refine mv_callV (kc' := 0) (ks' := 0) (As := [.long (if (v12 - v17) < v4 then v4 else (v12 - v17)), .int x2]) (st9 := [.int x2, .long (if (v12 - v17) < v4 then v4 else (v12 - v17)), .ref o0]) d_Grouping_spread_82 lV_Grouping_80 b162 rfl (tc_Grouping_keepAsBest (d := (d + 4)) (x9 := x9) (o0 := o0) (x1 := (if (v12 - v17) < v4 then v4 else (v12 - v17))) (x2 := x2) t13 I10.start) rfl (Nat.le_of_ble_eq_true rfl) (Nat.le_of_ble_eq_true rfl) (Nat.le_of_ble_eq_true rfl) (hst := rfl) (fun b156r M157 n158 b156 => ?_)
            obtain ⟨T159, J160, rfl⟩ := b156
            have I161 := I10.call J160 (tm_sub (by decide)) (Or.inl rfl)
            have t163 := J160.up t13
            have q164 := J160.keep t13 (by decide) q14
            have q165 := J160.keep t13 (by decide) q15
            have t166 := J160.up t_a16
            have q167 := J160.keep t13 (by decide) q21
            exact mv_vret d_Grouping_spread_85 rfl ⟨_, I161, rfl⟩
      · refine mv_lload_n d_Grouping_spread_38 rfl rfl ?_
        refine mv_aload_n d_Grouping_spread_39 rfl rfl ?_
        obtain ⟨v169, q168⟩ := tm_atL I10 t13 (k := 0) rfl
        refine tr_getK q168 d_Grouping_spread_40 f_Grouping_50_7 ?_
        refine mv_lgtZ (tgt := 64) (a := (if (v12 - v17) < v4 then v4 else (v12 - v17)).toInt) (b := v169.toInt) d_Grouping_spread_43 d_Grouping_spread_44 (by decide) rfl rfl (fun b170 => ?_) (fun b170 => ?_)
        · exact mv_vret d_Grouping_spread_64 rfl ⟨_, I10, rfl⟩
        · refine mv_lload_n d_Grouping_spread_47 rfl rfl ?_
          refine mv_aload_n d_Grouping_spread_48 rfl rfl ?_
          refine tr_getK (k := 0) q168 d_Grouping_spread_49 f_Grouping_50_7 ?_
          refine mv_lneZ (tgt := 65) (a := (if (v12 - v17) < v4 then v4 else (v12 - v17)).toInt) (b := v169.toInt) d_Grouping_spread_52 d_Grouping_spread_53 (by decide) rfl rfl (fun b171 => ?_) (fun b171 => ?_)
          · refine mv_iload_n d_Grouping_spread_65 rfl rfl ?_
            refine mv_aload_n d_Grouping_spread_66 rfl rfl ?_
            obtain ⟨v173, q172⟩ := tm_atI I10 t13 (k := 2) rfl
            refine tr_getK q172 d_Grouping_spread_67 f_Grouping_44_7 ?_
            have := mz_hi x1
            have := mz_hi v173
            refine mv_icmp_geZ (tgt := 79) (a := x1.toInt) (b := v173.toInt) d_Grouping_spread_70 (by decide) rfl rfl (fun b174 => ?_) (fun b174 => ?_)
            · refine mv_aload_n d_Grouping_spread_79 rfl rfl ?_
              refine mv_lload_n d_Grouping_spread_80 rfl rfl ?_
              refine mv_iload_n d_Grouping_spread_81 rfl rfl ?_
              obtain ⟨_, b181, -⟩ := I10.1 _ _ t13
              refine mv_callV (kc' := 0) (ks' := 0) (As := [.long (if (v12 - v17) < v4 then v4 else (v12 - v17)), .int x2]) (st9 := [.int x2, .long (if (v12 - v17) < v4 then v4 else (v12 - v17)), .ref o0]) d_Grouping_spread_82 lV_Grouping_80 b181 rfl (tc_Grouping_keepAsBest (d := (d + 4)) (x9 := x9) (o0 := o0) (x1 := (if (v12 - v17) < v4 then v4 else (v12 - v17))) (x2 := x2) t13 I10.start) rfl (Nat.le_of_ble_eq_true rfl) (Nat.le_of_ble_eq_true rfl) (Nat.le_of_ble_eq_true rfl) (hst := rfl) (fun b175r M176 n177 b175 => ?_)
              obtain ⟨T178, J179, rfl⟩ := b175
              have I180 := I10.call J179 (tm_sub (by decide)) (Or.inl rfl)
              have t182 := J179.up t13
              have q183 := J179.keep t13 (by decide) q14
              have q184 := J179.keep t13 (by decide) q15
              have t185 := J179.up t_a16
              have q186 := J179.keep t13 (by decide) q172
              exact mv_vret d_Grouping_spread_85 rfl ⟨_, I180, rfl⟩
            · refine mv_iload_n d_Grouping_spread_73 rfl rfl ?_
              refine mv_bipush (v := 8) d_Grouping_spread_74 (by decide) ?_
              have := mz_hi x1
              refine mv_icmp_neZ (tgt := 86) (a := x1.toInt) (b := 8) d_Grouping_spread_76 (by decide) rfl (by decide) (fun b187 => ?_) (fun b187 => ?_)
              · refine mv_iconst (v := 0) d_Grouping_spread_86 (by decide) ?_
                refine mv_istore (lv' := [(5, .int 0), (3, .long (if (v12 - v17) < v4 then v4 else (v12 - v17))), (0, .ref o0), (1, .int x1), (2, .int x2)]) d_Grouping_spread_87 (by decide) rfl ?_
                have L89_188 : ∀ (k : Nat) (i5_188 : Int32) (T_188 : tm_H) (M_188 : mj_M) (n_188 : Nat), tm_I tm_FT (tm_in w_Grouping_spread_q4) x9 T0 M0 n0 T_188 M_188 n_188 → T_188 o0 = some (0, 7, 0) → 0 ≤ i5_188.toInt → 2147483647 - i5_188.toInt < (k : Int) → mj_V g l kY_Grouping_spread (d + 5) 89 [(5, .int i5_188), (3, .long (if (v12 - v17) < v4 then v4 else (v12 - v17))), (0, .ref o0), (1, .int x1), (2, .int x2)] [] M_188 n_188 0 0 (tm_Q tm_FT (tm_in w_Grouping_spread_q4) x9 T0 M0 n0 (fun r _ _ => r = none)) := by
                  intro k188
                  induction k188 with
                  | zero =>
                    intro i5_188 T_188 M_188 n_188 I_188 h_q0_188 iv0_188 hk188
                    have := mz_hi i5_188
                    omega
                  | succ k188 ih188 =>
                    intro i5_188 T_188 M_188 n_188 I_188 h_q0_188 iv0_188 hk188
                    refine mv_iload d_Grouping_spread_89 rfl ?_
                    refine mv_iload_n d_Grouping_spread_91 rfl rfl ?_
                    have := mz_hi i5_188
                    have := mz_hi x2
                    refine mv_icmp_gtZ (tgt := 197) (a := i5_188.toInt) (b := x2.toInt) d_Grouping_spread_92 (by decide) rfl rfl (fun b189 => ?_) (fun b189 => ?_)
                    · exact mv_vret d_Grouping_spread_197 rfl ⟨_, I_188, rfl⟩
                    · refine mv_iload d_Grouping_spread_95 rfl ?_
                      refine mv_bipush (v := 8) d_Grouping_spread_97 (by decide) ?_
                      have := mz_hi i5_188
                      refine mv_icmp_geZ (tgt := 197) (a := i5_188.toInt) (b := 8) d_Grouping_spread_99 (by decide) rfl (by decide) (fun b190 => ?_) (fun b190 => ?_)
                      · exact mv_vret d_Grouping_spread_197 rfl ⟨_, I_188, rfl⟩
                      · refine mv_aload_n d_Grouping_spread_102 rfl rfl ?_
                        obtain ⟨a192, q191, t_a192⟩ := tm_atR I_188 h_q0_188 (k := 10) rfl
                        refine tr_getK q191 d_Grouping_spread_103 f_Grouping_31_7 ?_
                        refine mv_iload d_Grouping_spread_106 rfl ?_
                        refine tr_iald I_188 t_a192 (by decide) d_Grouping_spread_108 (vp_in_iff.mpr (by omega)) (fun v193 => ?_)
                        refine mv_istore (lv' := [(6, .int v193), (5, .int i5_188), (3, .long (if (v12 - v17) < v4 then v4 else (v12 - v17))), (0, .ref o0), (1, .int x1), (2, .int x2)]) d_Grouping_spread_109 (by decide) rfl ?_
                        refine mv_aload_n d_Grouping_spread_111 rfl rfl ?_
                        refine mv_iload_n d_Grouping_spread_112 rfl rfl ?_
                        refine mv_iload d_Grouping_spread_113 rfl ?_
                        obtain ⟨_, b200, -⟩ := I_188.1 _ _ h_q0_188
                        refine mv_callV (kc' := 0) (ks' := 0) (As := [.int x1, .int i5_188]) (st9 := [.int i5_188, .int x1, .ref o0]) d_Grouping_spread_115 lV_Grouping_56 b200 rfl (tc_Grouping_put (d := (d + 4)) (x9 := x9) (o0 := o0) (x1 := x1) (x2 := i5_188) h_q0_188 I_188.start) rfl (Nat.le_of_ble_eq_true rfl) (Nat.le_of_ble_eq_true rfl) (Nat.le_of_ble_eq_true rfl) (hst := rfl) (fun b194r M195 n196 b194 => ?_)
                        obtain ⟨T197, J198, rfl⟩ := b194
                        have I199 := I_188.call J198 (tm_sub (by decide)) (Or.inl rfl)
                        have t201 := J198.up h_q0_188
                        have q202 := J198.keep h_q0_188 (by decide) q191
                        have t203 := J198.up t_a192
                        refine mv_aload_n d_Grouping_spread_118 rfl rfl ?_
                        refine mv_iload d_Grouping_spread_119 rfl ?_
                        obtain ⟨_, b210, -⟩ := I199.1 _ _ t201
                        refine mv_callV (kc' := 0) (ks' := 0) (As := [.int i5_188]) (st9 := [.int i5_188, .ref o0]) d_Grouping_spread_121 lV_Grouping_60 b210 rfl (tc_Grouping_holdsTogether (d := (d + 3)) (x9 := x9) (o0 := o0) (x1 := i5_188) t201 I199.start) rfl (Nat.le_of_ble_eq_true rfl) (Nat.le_of_ble_eq_true rfl) (Nat.le_of_ble_eq_true rfl) (hst := rfl) (fun b204r M205 n206 b204 => ?_)
                        obtain ⟨T207, J208, v211, rfl, b212, b213⟩ := b204
                        have I209 := I199.call J208 (tm_sub (by decide)) (Or.inl rfl)
                        have t214 := J208.up t201
                        have q215 := J208.keep t201 (by decide) q202
                        have t216 := J208.up t203
                        have := mz_hi v211
                        refine mv_if_eqZ (tgt := 155) (a := v211.toInt) d_Grouping_spread_124 (by decide) rfl (fun b217 => ?_) (fun b217 => ?_)
                        · refine mv_aload_n d_Grouping_spread_155 rfl rfl ?_
                          obtain ⟨a219, q218, t_a219⟩ := tm_atR I209 t214 (k := 9) rfl
                          refine tr_getK q218 d_Grouping_spread_156 f_Grouping_28_7 ?_
                          refine mv_iload d_Grouping_spread_159 rfl ?_
                          refine mv_dup2_11 d_Grouping_spread_161 rfl rfl ?_
                          refine tr_iald I209 t_a219 (by decide) d_Grouping_spread_162 (vp_in_iff.mpr (by omega)) (fun v220 => ?_)
                          refine mv_iconst (v := 1) d_Grouping_spread_163 (by decide) ?_
                          refine mv_isub d_Grouping_spread_164 ?_
                          refine tr_iastK tm_okF I209 t_a219 (by decide) (Or.inl (by decide)) d_Grouping_spread_165 (vp_in_iff.mpr (by omega)) (fun M221 I222 K223 => ?_)
                          refine mv_aload_n d_Grouping_spread_166 rfl rfl ?_
                          obtain ⟨a225, q224, t_a225⟩ := tm_atR I222 t214 (k := 11) rfl
                          refine tr_getK q224 d_Grouping_spread_167 f_Grouping_34_7 ?_
                          refine mv_iload d_Grouping_spread_170 rfl ?_
                          refine mv_dup2_11 d_Grouping_spread_172 rfl rfl ?_
                          refine tr_lald I222 t_a225 (by decide) d_Grouping_spread_173 (vp_in_iff.mpr (by omega)) (fun v226 => ?_)
                          refine mv_aload_n d_Grouping_spread_174 rfl rfl ?_
                          obtain ⟨a228, q227, t_a228⟩ := tm_atR I222 t214 (k := 5) rfl
                          refine tr_getK q227 d_Grouping_spread_175 f_Grouping_15_7 ?_
                          refine mv_iload_n d_Grouping_spread_178 rfl rfl ?_
                          refine tr_lald I222 t_a228 (by decide) d_Grouping_spread_179 (vp_in_iff.mpr (by omega)) (fun v229 => ?_)
                          refine mv_lsub d_Grouping_spread_180 ?_
                          refine tr_lastK tm_okF I222 t_a225 (by decide) (Or.inl (by decide)) d_Grouping_spread_181 (vp_in_iff.mpr (by omega)) (fun M230 I231 K232 => ?_)
                          refine mv_aload_n d_Grouping_spread_182 rfl rfl ?_
                          refine tr_getK (k := 10) (K232 _ 7 10 _ (K223 _ 7 10 _ q215)) d_Grouping_spread_183 f_Grouping_31_7 ?_
                          refine mv_iload d_Grouping_spread_186 rfl ?_
                          refine mv_iload d_Grouping_spread_188 rfl ?_
                          refine tr_iastK tm_okF I231 t216 (by decide) (Or.inl (by decide)) d_Grouping_spread_190 (vp_in_iff.mpr (by omega)) (fun M233 I234 K235 => ?_)
                          refine mv_iinc (v := (i5_188 + 1)) (lv' := [(5, .int (i5_188 + 1)), (6, .int v193), (3, .long (if (v12 - v17) < v4 then v4 else (v12 - v17))), (0, .ref o0), (1, .int x1), (2, .int x2)]) d_Grouping_spread_191 rfl rfl (by decide) rfl ?_
                          refine mv_goto (tgt := 89) d_Grouping_spread_194 (by decide) ?_
                          refine mv_locals (lv' := [(5, .int (i5_188 + 1)), (3, .long (if (v12 - v17) < v4 then v4 else (v12 - v17))), (0, .ref o0), (1, .int x1), (2, .int x2)]) (by intro q hq; simp only [List.mem_cons, List.not_mem_nil, or_false] at hq; rcases hq with rfl | rfl | rfl | rfl | rfl <;> rfl) ?_
                          have b236 : (i5_188 + 1).toInt = i5_188.toInt + 1 := mz_addn 1 1 (by decide) (by have := mz_lo i5_188; omega) (by have := mz_hi i5_188; omega)
                          exact (ih188 (i5_188 + 1) T207 M233 n206 I234 t214 (by first | omega | decide) (by omega))
                        · refine mv_aload_n d_Grouping_spread_127 rfl rfl ?_
                          obtain ⟨a238, q237, t_a238⟩ := tm_atR I209 t214 (k := 7) rfl
                          refine tr_getK q237 d_Grouping_spread_128 f_Grouping_22_7 ?_
                          refine mv_iload_n d_Grouping_spread_131 rfl rfl ?_
                          refine mv_iload d_Grouping_spread_132 rfl ?_
                          refine tr_iastK tm_okF I209 t_a238 (by decide) (Or.inl (by decide)) d_Grouping_spread_134 (vp_in_iff.mpr (by omega)) (fun M239 I240 K241 => ?_)
                          refine mv_aload_n d_Grouping_spread_135 rfl rfl ?_
                          refine mv_iload_n d_Grouping_spread_136 rfl rfl ?_
                          refine mv_iconst (v := 1) d_Grouping_spread_137 (by decide) ?_
                          refine mv_iadd d_Grouping_spread_138 ?_
                          refine mv_iload d_Grouping_spread_139 rfl ?_
                          refine mv_iload_n d_Grouping_spread_141 rfl rfl ?_
                          have := mz_hi i5_188
                          have := mz_hi x2
                          refine mv_icmp_neZ (tgt := 151) (a := i5_188.toInt) (b := x2.toInt) d_Grouping_spread_142 (by decide) rfl rfl (fun b242 => ?_) (fun b242 => ?_)
                          · refine mv_iload_n d_Grouping_spread_151 rfl rfl ?_
                            have b243 : (x1 + 1).toInt = x1.toInt + 1 := mz_addn 1 1 (by decide) (by omega) (by omega)
                            obtain ⟨_, b250, -⟩ := I240.1 _ _ t214
                            refine mv_callV (kc' := 0) (ks' := 0) (As := [.int (x1 + 1), .int x2]) (st9 := [.int x2, .int (x1 + 1), .ref o0]) d_Grouping_spread_152 lV_Grouping_77 b250 rfl (tc_Grouping_spread_q3 (d := d) (x9 := x9) (o0 := o0) (x1 := (x1 + 1)) (x2 := x2) t214 (by first | omega | decide) I240.start) rfl (Nat.le_of_ble_eq_true rfl) (Nat.le_of_ble_eq_true rfl) (Nat.le_of_ble_eq_true rfl) (hst := rfl) (fun b244r M245 n246 b244 => ?_)
                            obtain ⟨T247, J248, rfl⟩ := b244
                            have I249 := I240.call J248 (tm_sub (by decide)) (Or.inl rfl)
                            have t251 := J248.up t214
                            have q252 := J248.keep t214 (by decide) (K241 _ 7 10 _ q215)
                            have t253 := J248.up t216
                            have q254 := J248.keep t214 (by decide) (K241 _ 7 7 _ q237)
                            have t255 := J248.up t_a238
                            refine mv_aload_n d_Grouping_spread_155 rfl rfl ?_
                            obtain ⟨a257, q256, t_a257⟩ := tm_atR I249 t251 (k := 9) rfl
                            refine tr_getK q256 d_Grouping_spread_156 f_Grouping_28_7 ?_
                            refine mv_iload d_Grouping_spread_159 rfl ?_
                            refine mv_dup2_11 d_Grouping_spread_161 rfl rfl ?_
                            refine tr_iald I249 t_a257 (by decide) d_Grouping_spread_162 (vp_in_iff.mpr (by omega)) (fun v258 => ?_)
                            refine mv_iconst (v := 1) d_Grouping_spread_163 (by decide) ?_
                            refine mv_isub d_Grouping_spread_164 ?_
                            refine tr_iastK tm_okF I249 t_a257 (by decide) (Or.inl (by decide)) d_Grouping_spread_165 (vp_in_iff.mpr (by omega)) (fun M259 I260 K261 => ?_)
                            refine mv_aload_n d_Grouping_spread_166 rfl rfl ?_
                            obtain ⟨a263, q262, t_a263⟩ := tm_atR I260 t251 (k := 11) rfl
                            refine tr_getK q262 d_Grouping_spread_167 f_Grouping_34_7 ?_
                            refine mv_iload d_Grouping_spread_170 rfl ?_
                            refine mv_dup2_11 d_Grouping_spread_172 rfl rfl ?_
                            refine tr_lald I260 t_a263 (by decide) d_Grouping_spread_173 (vp_in_iff.mpr (by omega)) (fun v264 => ?_)
                            refine mv_aload_n d_Grouping_spread_174 rfl rfl ?_
                            obtain ⟨a266, q265, t_a266⟩ := tm_atR I260 t251 (k := 5) rfl
                            refine tr_getK q265 d_Grouping_spread_175 f_Grouping_15_7 ?_
                            refine mv_iload_n d_Grouping_spread_178 rfl rfl ?_
                            refine tr_lald I260 t_a266 (by decide) d_Grouping_spread_179 (vp_in_iff.mpr (by omega)) (fun v267 => ?_)
                            refine mv_lsub d_Grouping_spread_180 ?_
                            refine tr_lastK tm_okF I260 t_a263 (by decide) (Or.inl (by decide)) d_Grouping_spread_181 (vp_in_iff.mpr (by omega)) (fun M268 I269 K270 => ?_)
                            refine mv_aload_n d_Grouping_spread_182 rfl rfl ?_
                            refine tr_getK (k := 10) (K270 _ 7 10 _ (K261 _ 7 10 _ q252)) d_Grouping_spread_183 f_Grouping_31_7 ?_
                            refine mv_iload d_Grouping_spread_186 rfl ?_
                            refine mv_iload d_Grouping_spread_188 rfl ?_
                            refine tr_iastK tm_okF I269 t253 (by decide) (Or.inl (by decide)) d_Grouping_spread_190 (vp_in_iff.mpr (by omega)) (fun M271 I272 K273 => ?_)
                            refine mv_iinc (v := (i5_188 + 1)) (lv' := [(5, .int (i5_188 + 1)), (6, .int v193), (3, .long (if (v12 - v17) < v4 then v4 else (v12 - v17))), (0, .ref o0), (1, .int x1), (2, .int x2)]) d_Grouping_spread_191 rfl rfl (by decide) rfl ?_
                            refine mv_goto (tgt := 89) d_Grouping_spread_194 (by decide) ?_
                            refine mv_locals (lv' := [(5, .int (i5_188 + 1)), (3, .long (if (v12 - v17) < v4 then v4 else (v12 - v17))), (0, .ref o0), (1, .int x1), (2, .int x2)]) (by intro q hq; simp only [List.mem_cons, List.not_mem_nil, or_false] at hq; rcases hq with rfl | rfl | rfl | rfl | rfl <;> rfl) ?_
                            have b274 : (i5_188 + 1).toInt = i5_188.toInt + 1 := mz_addn 1 1 (by decide) (by have := mz_lo i5_188; omega) (by have := mz_hi i5_188; omega)
                            exact (ih188 (i5_188 + 1) T247 M271 n246 I272 t251 (by first | omega | decide) (by omega))
                          · refine mv_iload_n d_Grouping_spread_145 rfl rfl ?_
                            refine mv_iconst (v := 1) d_Grouping_spread_146 (by decide) ?_
                            refine mv_iadd d_Grouping_spread_147 ?_
                            refine mv_goto (tgt := 152) d_Grouping_spread_148 (by decide) ?_
                            have b275 : (x1 + 1).toInt = x1.toInt + 1 := mz_addn 1 1 (by decide) (by omega) (by omega)
                            obtain ⟨_, b282, -⟩ := I240.1 _ _ t214
                            refine mv_callV (kc' := 0) (ks' := 0) (As := [.int (x1 + 1), .int (x2 + 1)]) (st9 := [.int (x2 + 1), .int (x1 + 1), .ref o0]) d_Grouping_spread_152 lV_Grouping_77 b282 rfl (tc_Grouping_spread_q3 (d := d) (x9 := x9) (o0 := o0) (x1 := (x1 + 1)) (x2 := (x2 + 1)) t214 (by first | omega | decide) I240.start) rfl (Nat.le_of_ble_eq_true rfl) (Nat.le_of_ble_eq_true rfl) (Nat.le_of_ble_eq_true rfl) (hst := rfl) (fun b276r M277 n278 b276 => ?_)
                            obtain ⟨T279, J280, rfl⟩ := b276
                            have I281 := I240.call J280 (tm_sub (by decide)) (Or.inl rfl)
                            have t283 := J280.up t214
                            have q284 := J280.keep t214 (by decide) (K241 _ 7 10 _ q215)
                            have t285 := J280.up t216
                            have q286 := J280.keep t214 (by decide) (K241 _ 7 7 _ q237)
                            have t287 := J280.up t_a238
                            refine mv_aload_n d_Grouping_spread_155 rfl rfl ?_
                            obtain ⟨a289, q288, t_a289⟩ := tm_atR I281 t283 (k := 9) rfl
                            refine tr_getK q288 d_Grouping_spread_156 f_Grouping_28_7 ?_
                            refine mv_iload d_Grouping_spread_159 rfl ?_
                            refine mv_dup2_11 d_Grouping_spread_161 rfl rfl ?_
                            refine tr_iald I281 t_a289 (by decide) d_Grouping_spread_162 (vp_in_iff.mpr (by omega)) (fun v290 => ?_)
                            refine mv_iconst (v := 1) d_Grouping_spread_163 (by decide) ?_
                            refine mv_isub d_Grouping_spread_164 ?_
                            refine tr_iastK tm_okF I281 t_a289 (by decide) (Or.inl (by decide)) d_Grouping_spread_165 (vp_in_iff.mpr (by omega)) (fun M291 I292 K293 => ?_)
                            refine mv_aload_n d_Grouping_spread_166 rfl rfl ?_
                            obtain ⟨a295, q294, t_a295⟩ := tm_atR I292 t283 (k := 11) rfl
                            refine tr_getK q294 d_Grouping_spread_167 f_Grouping_34_7 ?_
                            refine mv_iload d_Grouping_spread_170 rfl ?_
                            refine mv_dup2_11 d_Grouping_spread_172 rfl rfl ?_
                            refine tr_lald I292 t_a295 (by decide) d_Grouping_spread_173 (vp_in_iff.mpr (by omega)) (fun v296 => ?_)
                            refine mv_aload_n d_Grouping_spread_174 rfl rfl ?_
                            obtain ⟨a298, q297, t_a298⟩ := tm_atR I292 t283 (k := 5) rfl
                            refine tr_getK q297 d_Grouping_spread_175 f_Grouping_15_7 ?_
                            refine mv_iload_n d_Grouping_spread_178 rfl rfl ?_
                            refine tr_lald I292 t_a298 (by decide) d_Grouping_spread_179 (vp_in_iff.mpr (by omega)) (fun v299 => ?_)
                            refine mv_lsub d_Grouping_spread_180 ?_
                            refine tr_lastK tm_okF I292 t_a295 (by decide) (Or.inl (by decide)) d_Grouping_spread_181 (vp_in_iff.mpr (by omega)) (fun M300 I301 K302 => ?_)
                            refine mv_aload_n d_Grouping_spread_182 rfl rfl ?_
                            refine tr_getK (k := 10) (K302 _ 7 10 _ (K293 _ 7 10 _ q284)) d_Grouping_spread_183 f_Grouping_31_7 ?_
                            refine mv_iload d_Grouping_spread_186 rfl ?_
                            refine mv_iload d_Grouping_spread_188 rfl ?_
                            refine tr_iastK tm_okF I301 t285 (by decide) (Or.inl (by decide)) d_Grouping_spread_190 (vp_in_iff.mpr (by omega)) (fun M303 I304 K305 => ?_)
                            refine mv_iinc (v := (i5_188 + 1)) (lv' := [(5, .int (i5_188 + 1)), (6, .int v193), (3, .long (if (v12 - v17) < v4 then v4 else (v12 - v17))), (0, .ref o0), (1, .int x1), (2, .int x2)]) d_Grouping_spread_191 rfl rfl (by decide) rfl ?_
                            refine mv_goto (tgt := 89) d_Grouping_spread_194 (by decide) ?_
                            refine mv_locals (lv' := [(5, .int (i5_188 + 1)), (3, .long (if (v12 - v17) < v4 then v4 else (v12 - v17))), (0, .ref o0), (1, .int x1), (2, .int x2)]) (by intro q hq; simp only [List.mem_cons, List.not_mem_nil, or_false] at hq; rcases hq with rfl | rfl | rfl | rfl | rfl <;> rfl) ?_
                            have b306 : (i5_188 + 1).toInt = i5_188.toInt + 1 := mz_addn 1 1 (by decide) (by have := mz_lo i5_188; omega) (by have := mz_hi i5_188; omega)
                            exact (ih188 (i5_188 + 1) T279 M303 n278 I304 t283 (by first | omega | decide) (by omega))
                exact mv_less (Nat.zero_le _) (Nat.zero_le _) (L89_188 4294967296 0 T8 M6 n7 I10 t13 (by first | omega | decide) (by show (2147483647 - (0 : Int) : Int) < _; decide))
              · refine mv_aload_n d_Grouping_spread_79 rfl rfl ?_
                refine mv_lload_n d_Grouping_spread_80 rfl rfl ?_
                refine mv_iload_n d_Grouping_spread_81 rfl rfl ?_
                obtain ⟨_, b313, -⟩ := I10.1 _ _ t13
                refine mv_callV (kc' := 0) (ks' := 0) (As := [.long (if (v12 - v17) < v4 then v4 else (v12 - v17)), .int x2]) (st9 := [.int x2, .long (if (v12 - v17) < v4 then v4 else (v12 - v17)), .ref o0]) d_Grouping_spread_82 lV_Grouping_80 b313 rfl (tc_Grouping_keepAsBest (d := (d + 4)) (x9 := x9) (o0 := o0) (x1 := (if (v12 - v17) < v4 then v4 else (v12 - v17))) (x2 := x2) t13 I10.start) rfl (Nat.le_of_ble_eq_true rfl) (Nat.le_of_ble_eq_true rfl) (Nat.le_of_ble_eq_true rfl) (hst := rfl) (fun b307r M308 n309 b307 => ?_)
                obtain ⟨T310, J311, rfl⟩ := b307
                have I312 := I10.call J311 (tm_sub (by decide)) (Or.inl rfl)
                have t314 := J311.up t13
                have q315 := J311.keep t13 (by decide) q14
                have q316 := J311.keep t13 (by decide) q15
                have t317 := J311.up t_a16
                have q318 := J311.keep t13 (by decide) q172
                exact mv_vret d_Grouping_spread_85 rfl ⟨_, I312, rfl⟩
          · refine mv_iload_n d_Grouping_spread_56 rfl rfl ?_
            refine mv_aload_n d_Grouping_spread_57 rfl rfl ?_
            refine tr_getK (k := 3) q18 d_Grouping_spread_58 f_Grouping_47_7 ?_
            have := mz_hi x2
            have := mz_hi v19
            refine mv_icmp_ltZ (tgt := 65) (a := x2.toInt) (b := v19.toInt) d_Grouping_spread_61 (by decide) rfl rfl (fun b319 => ?_) (fun b319 => ?_)
            · refine mv_iload_n d_Grouping_spread_65 rfl rfl ?_
              refine mv_aload_n d_Grouping_spread_66 rfl rfl ?_
              obtain ⟨v321, q320⟩ := tm_atI I10 t13 (k := 2) rfl
              refine tr_getK q320 d_Grouping_spread_67 f_Grouping_44_7 ?_
              have := mz_hi x1
              have := mz_hi v321
              refine mv_icmp_geZ (tgt := 79) (a := x1.toInt) (b := v321.toInt) d_Grouping_spread_70 (by decide) rfl rfl (fun b322 => ?_) (fun b322 => ?_)
              · refine mv_aload_n d_Grouping_spread_79 rfl rfl ?_
                refine mv_lload_n d_Grouping_spread_80 rfl rfl ?_
                refine mv_iload_n d_Grouping_spread_81 rfl rfl ?_
                obtain ⟨_, b329, -⟩ := I10.1 _ _ t13
                refine mv_callV (kc' := 0) (ks' := 0) (As := [.long (if (v12 - v17) < v4 then v4 else (v12 - v17)), .int x2]) (st9 := [.int x2, .long (if (v12 - v17) < v4 then v4 else (v12 - v17)), .ref o0]) d_Grouping_spread_82 lV_Grouping_80 b329 rfl (tc_Grouping_keepAsBest (d := (d + 4)) (x9 := x9) (o0 := o0) (x1 := (if (v12 - v17) < v4 then v4 else (v12 - v17))) (x2 := x2) t13 I10.start) rfl (Nat.le_of_ble_eq_true rfl) (Nat.le_of_ble_eq_true rfl) (Nat.le_of_ble_eq_true rfl) (hst := rfl) (fun b323r M324 n325 b323 => ?_)
                obtain ⟨T326, J327, rfl⟩ := b323
                have I328 := I10.call J327 (tm_sub (by decide)) (Or.inl rfl)
                have t330 := J327.up t13
                have q331 := J327.keep t13 (by decide) q14
                have q332 := J327.keep t13 (by decide) q15
                have t333 := J327.up t_a16
                have q334 := J327.keep t13 (by decide) q320
                exact mv_vret d_Grouping_spread_85 rfl ⟨_, I328, rfl⟩
              · refine mv_iload_n d_Grouping_spread_73 rfl rfl ?_
                refine mv_bipush (v := 8) d_Grouping_spread_74 (by decide) ?_
                have := mz_hi x1
                refine mv_icmp_neZ (tgt := 86) (a := x1.toInt) (b := 8) d_Grouping_spread_76 (by decide) rfl (by decide) (fun b335 => ?_) (fun b335 => ?_)
                · refine mv_iconst (v := 0) d_Grouping_spread_86 (by decide) ?_
                  refine mv_istore (lv' := [(5, .int 0), (3, .long (if (v12 - v17) < v4 then v4 else (v12 - v17))), (0, .ref o0), (1, .int x1), (2, .int x2)]) d_Grouping_spread_87 (by decide) rfl ?_
                  have L89_336 : ∀ (k : Nat) (i5_336 : Int32) (T_336 : tm_H) (M_336 : mj_M) (n_336 : Nat), tm_I tm_FT (tm_in w_Grouping_spread_q4) x9 T0 M0 n0 T_336 M_336 n_336 → T_336 o0 = some (0, 7, 0) → 0 ≤ i5_336.toInt → 2147483647 - i5_336.toInt < (k : Int) → mj_V g l kY_Grouping_spread (d + 5) 89 [(5, .int i5_336), (3, .long (if (v12 - v17) < v4 then v4 else (v12 - v17))), (0, .ref o0), (1, .int x1), (2, .int x2)] [] M_336 n_336 0 0 (tm_Q tm_FT (tm_in w_Grouping_spread_q4) x9 T0 M0 n0 (fun r _ _ => r = none)) := by
                    intro k336
                    induction k336 with
                    | zero =>
                      intro i5_336 T_336 M_336 n_336 I_336 h_q0_336 iv0_336 hk336
                      have := mz_hi i5_336
                      omega
                    | succ k336 ih336 =>
                      intro i5_336 T_336 M_336 n_336 I_336 h_q0_336 iv0_336 hk336
                      refine mv_iload d_Grouping_spread_89 rfl ?_
                      refine mv_iload_n d_Grouping_spread_91 rfl rfl ?_
                      have := mz_hi i5_336
                      have := mz_hi x2
                      refine mv_icmp_gtZ (tgt := 197) (a := i5_336.toInt) (b := x2.toInt) d_Grouping_spread_92 (by decide) rfl rfl (fun b337 => ?_) (fun b337 => ?_)
                      · exact mv_vret d_Grouping_spread_197 rfl ⟨_, I_336, rfl⟩
                      · refine mv_iload d_Grouping_spread_95 rfl ?_
                        refine mv_bipush (v := 8) d_Grouping_spread_97 (by decide) ?_
                        have := mz_hi i5_336
                        refine mv_icmp_geZ (tgt := 197) (a := i5_336.toInt) (b := 8) d_Grouping_spread_99 (by decide) rfl (by decide) (fun b338 => ?_) (fun b338 => ?_)
                        · exact mv_vret d_Grouping_spread_197 rfl ⟨_, I_336, rfl⟩
                        · refine mv_aload_n d_Grouping_spread_102 rfl rfl ?_
                          obtain ⟨a340, q339, t_a340⟩ := tm_atR I_336 h_q0_336 (k := 10) rfl
                          refine tr_getK q339 d_Grouping_spread_103 f_Grouping_31_7 ?_
                          refine mv_iload d_Grouping_spread_106 rfl ?_
                          refine tr_iald I_336 t_a340 (by decide) d_Grouping_spread_108 (vp_in_iff.mpr (by omega)) (fun v341 => ?_)
                          refine mv_istore (lv' := [(6, .int v341), (5, .int i5_336), (3, .long (if (v12 - v17) < v4 then v4 else (v12 - v17))), (0, .ref o0), (1, .int x1), (2, .int x2)]) d_Grouping_spread_109 (by decide) rfl ?_
                          refine mv_aload_n d_Grouping_spread_111 rfl rfl ?_
                          refine mv_iload_n d_Grouping_spread_112 rfl rfl ?_
                          refine mv_iload d_Grouping_spread_113 rfl ?_
                          obtain ⟨_, b348, -⟩ := I_336.1 _ _ h_q0_336
                          refine mv_callV (kc' := 0) (ks' := 0) (As := [.int x1, .int i5_336]) (st9 := [.int i5_336, .int x1, .ref o0]) d_Grouping_spread_115 lV_Grouping_56 b348 rfl (tc_Grouping_put (d := (d + 4)) (x9 := x9) (o0 := o0) (x1 := x1) (x2 := i5_336) h_q0_336 I_336.start) rfl (Nat.le_of_ble_eq_true rfl) (Nat.le_of_ble_eq_true rfl) (Nat.le_of_ble_eq_true rfl) (hst := rfl) (fun b342r M343 n344 b342 => ?_)
                          obtain ⟨T345, J346, rfl⟩ := b342
                          have I347 := I_336.call J346 (tm_sub (by decide)) (Or.inl rfl)
                          have t349 := J346.up h_q0_336
                          have q350 := J346.keep h_q0_336 (by decide) q339
                          have t351 := J346.up t_a340
                          refine mv_aload_n d_Grouping_spread_118 rfl rfl ?_
                          refine mv_iload d_Grouping_spread_119 rfl ?_
                          obtain ⟨_, b358, -⟩ := I347.1 _ _ t349
                          refine mv_callV (kc' := 0) (ks' := 0) (As := [.int i5_336]) (st9 := [.int i5_336, .ref o0]) d_Grouping_spread_121 lV_Grouping_60 b358 rfl (tc_Grouping_holdsTogether (d := (d + 3)) (x9 := x9) (o0 := o0) (x1 := i5_336) t349 I347.start) rfl (Nat.le_of_ble_eq_true rfl) (Nat.le_of_ble_eq_true rfl) (Nat.le_of_ble_eq_true rfl) (hst := rfl) (fun b352r M353 n354 b352 => ?_)
                          obtain ⟨T355, J356, v359, rfl, b360, b361⟩ := b352
                          have I357 := I347.call J356 (tm_sub (by decide)) (Or.inl rfl)
                          have t362 := J356.up t349
                          have q363 := J356.keep t349 (by decide) q350
                          have t364 := J356.up t351
                          have := mz_hi v359
                          refine mv_if_eqZ (tgt := 155) (a := v359.toInt) d_Grouping_spread_124 (by decide) rfl (fun b365 => ?_) (fun b365 => ?_)
                          · refine mv_aload_n d_Grouping_spread_155 rfl rfl ?_
                            obtain ⟨a367, q366, t_a367⟩ := tm_atR I357 t362 (k := 9) rfl
                            refine tr_getK q366 d_Grouping_spread_156 f_Grouping_28_7 ?_
                            refine mv_iload d_Grouping_spread_159 rfl ?_
                            refine mv_dup2_11 d_Grouping_spread_161 rfl rfl ?_
                            refine tr_iald I357 t_a367 (by decide) d_Grouping_spread_162 (vp_in_iff.mpr (by omega)) (fun v368 => ?_)
                            refine mv_iconst (v := 1) d_Grouping_spread_163 (by decide) ?_
                            refine mv_isub d_Grouping_spread_164 ?_
                            refine tr_iastK tm_okF I357 t_a367 (by decide) (Or.inl (by decide)) d_Grouping_spread_165 (vp_in_iff.mpr (by omega)) (fun M369 I370 K371 => ?_)
                            refine mv_aload_n d_Grouping_spread_166 rfl rfl ?_
                            obtain ⟨a373, q372, t_a373⟩ := tm_atR I370 t362 (k := 11) rfl
                            refine tr_getK q372 d_Grouping_spread_167 f_Grouping_34_7 ?_
                            refine mv_iload d_Grouping_spread_170 rfl ?_
                            refine mv_dup2_11 d_Grouping_spread_172 rfl rfl ?_
                            refine tr_lald I370 t_a373 (by decide) d_Grouping_spread_173 (vp_in_iff.mpr (by omega)) (fun v374 => ?_)
                            refine mv_aload_n d_Grouping_spread_174 rfl rfl ?_
                            obtain ⟨a376, q375, t_a376⟩ := tm_atR I370 t362 (k := 5) rfl
                            refine tr_getK q375 d_Grouping_spread_175 f_Grouping_15_7 ?_
                            refine mv_iload_n d_Grouping_spread_178 rfl rfl ?_
                            refine tr_lald I370 t_a376 (by decide) d_Grouping_spread_179 (vp_in_iff.mpr (by omega)) (fun v377 => ?_)
                            refine mv_lsub d_Grouping_spread_180 ?_
                            refine tr_lastK tm_okF I370 t_a373 (by decide) (Or.inl (by decide)) d_Grouping_spread_181 (vp_in_iff.mpr (by omega)) (fun M378 I379 K380 => ?_)
                            refine mv_aload_n d_Grouping_spread_182 rfl rfl ?_
                            refine tr_getK (k := 10) (K380 _ 7 10 _ (K371 _ 7 10 _ q363)) d_Grouping_spread_183 f_Grouping_31_7 ?_
                            refine mv_iload d_Grouping_spread_186 rfl ?_
                            refine mv_iload d_Grouping_spread_188 rfl ?_
                            refine tr_iastK tm_okF I379 t364 (by decide) (Or.inl (by decide)) d_Grouping_spread_190 (vp_in_iff.mpr (by omega)) (fun M381 I382 K383 => ?_)
                            refine mv_iinc (v := (i5_336 + 1)) (lv' := [(5, .int (i5_336 + 1)), (6, .int v341), (3, .long (if (v12 - v17) < v4 then v4 else (v12 - v17))), (0, .ref o0), (1, .int x1), (2, .int x2)]) d_Grouping_spread_191 rfl rfl (by decide) rfl ?_
                            refine mv_goto (tgt := 89) d_Grouping_spread_194 (by decide) ?_
                            refine mv_locals (lv' := [(5, .int (i5_336 + 1)), (3, .long (if (v12 - v17) < v4 then v4 else (v12 - v17))), (0, .ref o0), (1, .int x1), (2, .int x2)]) (by intro q hq; simp only [List.mem_cons, List.not_mem_nil, or_false] at hq; rcases hq with rfl | rfl | rfl | rfl | rfl <;> rfl) ?_
                            have b384 : (i5_336 + 1).toInt = i5_336.toInt + 1 := mz_addn 1 1 (by decide) (by have := mz_lo i5_336; omega) (by have := mz_hi i5_336; omega)
                            exact (ih336 (i5_336 + 1) T355 M381 n354 I382 t362 (by first | omega | decide) (by omega))
                          · refine mv_aload_n d_Grouping_spread_127 rfl rfl ?_
                            obtain ⟨a386, q385, t_a386⟩ := tm_atR I357 t362 (k := 7) rfl
                            refine tr_getK q385 d_Grouping_spread_128 f_Grouping_22_7 ?_
                            refine mv_iload_n d_Grouping_spread_131 rfl rfl ?_
                            refine mv_iload d_Grouping_spread_132 rfl ?_
                            refine tr_iastK tm_okF I357 t_a386 (by decide) (Or.inl (by decide)) d_Grouping_spread_134 (vp_in_iff.mpr (by omega)) (fun M387 I388 K389 => ?_)
                            refine mv_aload_n d_Grouping_spread_135 rfl rfl ?_
                            refine mv_iload_n d_Grouping_spread_136 rfl rfl ?_
                            refine mv_iconst (v := 1) d_Grouping_spread_137 (by decide) ?_
                            refine mv_iadd d_Grouping_spread_138 ?_
                            refine mv_iload d_Grouping_spread_139 rfl ?_
                            refine mv_iload_n d_Grouping_spread_141 rfl rfl ?_
                            have := mz_hi i5_336
                            have := mz_hi x2
                            refine mv_icmp_neZ (tgt := 151) (a := i5_336.toInt) (b := x2.toInt) d_Grouping_spread_142 (by decide) rfl rfl (fun b390 => ?_) (fun b390 => ?_)
                            · refine mv_iload_n d_Grouping_spread_151 rfl rfl ?_
                              have b391 : (x1 + 1).toInt = x1.toInt + 1 := mz_addn 1 1 (by decide) (by omega) (by omega)
                              obtain ⟨_, b398, -⟩ := I388.1 _ _ t362
                              refine mv_callV (kc' := 0) (ks' := 0) (As := [.int (x1 + 1), .int x2]) (st9 := [.int x2, .int (x1 + 1), .ref o0]) d_Grouping_spread_152 lV_Grouping_77 b398 rfl (tc_Grouping_spread_q3 (d := d) (x9 := x9) (o0 := o0) (x1 := (x1 + 1)) (x2 := x2) t362 (by first | omega | decide) I388.start) rfl (Nat.le_of_ble_eq_true rfl) (Nat.le_of_ble_eq_true rfl) (Nat.le_of_ble_eq_true rfl) (hst := rfl) (fun b392r M393 n394 b392 => ?_)
                              obtain ⟨T395, J396, rfl⟩ := b392
                              have I397 := I388.call J396 (tm_sub (by decide)) (Or.inl rfl)
                              have t399 := J396.up t362
                              have q400 := J396.keep t362 (by decide) (K389 _ 7 10 _ q363)
                              have t401 := J396.up t364
                              have q402 := J396.keep t362 (by decide) (K389 _ 7 7 _ q385)
                              have t403 := J396.up t_a386
                              refine mv_aload_n d_Grouping_spread_155 rfl rfl ?_
                              obtain ⟨a405, q404, t_a405⟩ := tm_atR I397 t399 (k := 9) rfl
                              refine tr_getK q404 d_Grouping_spread_156 f_Grouping_28_7 ?_
                              refine mv_iload d_Grouping_spread_159 rfl ?_
                              refine mv_dup2_11 d_Grouping_spread_161 rfl rfl ?_
                              refine tr_iald I397 t_a405 (by decide) d_Grouping_spread_162 (vp_in_iff.mpr (by omega)) (fun v406 => ?_)
                              refine mv_iconst (v := 1) d_Grouping_spread_163 (by decide) ?_
                              refine mv_isub d_Grouping_spread_164 ?_
                              refine tr_iastK tm_okF I397 t_a405 (by decide) (Or.inl (by decide)) d_Grouping_spread_165 (vp_in_iff.mpr (by omega)) (fun M407 I408 K409 => ?_)
                              refine mv_aload_n d_Grouping_spread_166 rfl rfl ?_
                              obtain ⟨a411, q410, t_a411⟩ := tm_atR I408 t399 (k := 11) rfl
                              refine tr_getK q410 d_Grouping_spread_167 f_Grouping_34_7 ?_
                              refine mv_iload d_Grouping_spread_170 rfl ?_
                              refine mv_dup2_11 d_Grouping_spread_172 rfl rfl ?_
                              refine tr_lald I408 t_a411 (by decide) d_Grouping_spread_173 (vp_in_iff.mpr (by omega)) (fun v412 => ?_)
                              refine mv_aload_n d_Grouping_spread_174 rfl rfl ?_
                              obtain ⟨a414, q413, t_a414⟩ := tm_atR I408 t399 (k := 5) rfl
                              refine tr_getK q413 d_Grouping_spread_175 f_Grouping_15_7 ?_
                              refine mv_iload_n d_Grouping_spread_178 rfl rfl ?_
                              refine tr_lald I408 t_a414 (by decide) d_Grouping_spread_179 (vp_in_iff.mpr (by omega)) (fun v415 => ?_)
                              refine mv_lsub d_Grouping_spread_180 ?_
                              refine tr_lastK tm_okF I408 t_a411 (by decide) (Or.inl (by decide)) d_Grouping_spread_181 (vp_in_iff.mpr (by omega)) (fun M416 I417 K418 => ?_)
                              refine mv_aload_n d_Grouping_spread_182 rfl rfl ?_
                              refine tr_getK (k := 10) (K418 _ 7 10 _ (K409 _ 7 10 _ q400)) d_Grouping_spread_183 f_Grouping_31_7 ?_
                              refine mv_iload d_Grouping_spread_186 rfl ?_
                              refine mv_iload d_Grouping_spread_188 rfl ?_
                              refine tr_iastK tm_okF I417 t401 (by decide) (Or.inl (by decide)) d_Grouping_spread_190 (vp_in_iff.mpr (by omega)) (fun M419 I420 K421 => ?_)
                              refine mv_iinc (v := (i5_336 + 1)) (lv' := [(5, .int (i5_336 + 1)), (6, .int v341), (3, .long (if (v12 - v17) < v4 then v4 else (v12 - v17))), (0, .ref o0), (1, .int x1), (2, .int x2)]) d_Grouping_spread_191 rfl rfl (by decide) rfl ?_
                              refine mv_goto (tgt := 89) d_Grouping_spread_194 (by decide) ?_
                              refine mv_locals (lv' := [(5, .int (i5_336 + 1)), (3, .long (if (v12 - v17) < v4 then v4 else (v12 - v17))), (0, .ref o0), (1, .int x1), (2, .int x2)]) (by intro q hq; simp only [List.mem_cons, List.not_mem_nil, or_false] at hq; rcases hq with rfl | rfl | rfl | rfl | rfl <;> rfl) ?_
                              have b422 : (i5_336 + 1).toInt = i5_336.toInt + 1 := mz_addn 1 1 (by decide) (by have := mz_lo i5_336; omega) (by have := mz_hi i5_336; omega)
                              exact (ih336 (i5_336 + 1) T395 M419 n394 I420 t399 (by first | omega | decide) (by omega))
                            · refine mv_iload_n d_Grouping_spread_145 rfl rfl ?_
                              refine mv_iconst (v := 1) d_Grouping_spread_146 (by decide) ?_
                              refine mv_iadd d_Grouping_spread_147 ?_
                              refine mv_goto (tgt := 152) d_Grouping_spread_148 (by decide) ?_
                              have b423 : (x1 + 1).toInt = x1.toInt + 1 := mz_addn 1 1 (by decide) (by omega) (by omega)
                              obtain ⟨_, b430, -⟩ := I388.1 _ _ t362
                              refine mv_callV (kc' := 0) (ks' := 0) (As := [.int (x1 + 1), .int (x2 + 1)]) (st9 := [.int (x2 + 1), .int (x1 + 1), .ref o0]) d_Grouping_spread_152 lV_Grouping_77 b430 rfl (tc_Grouping_spread_q3 (d := d) (x9 := x9) (o0 := o0) (x1 := (x1 + 1)) (x2 := (x2 + 1)) t362 (by first | omega | decide) I388.start) rfl (Nat.le_of_ble_eq_true rfl) (Nat.le_of_ble_eq_true rfl) (Nat.le_of_ble_eq_true rfl) (hst := rfl) (fun b424r M425 n426 b424 => ?_)
                              obtain ⟨T427, J428, rfl⟩ := b424
                              have I429 := I388.call J428 (tm_sub (by decide)) (Or.inl rfl)
                              have t431 := J428.up t362
                              have q432 := J428.keep t362 (by decide) (K389 _ 7 10 _ q363)
                              have t433 := J428.up t364
                              have q434 := J428.keep t362 (by decide) (K389 _ 7 7 _ q385)
                              have t435 := J428.up t_a386
                              refine mv_aload_n d_Grouping_spread_155 rfl rfl ?_
                              obtain ⟨a437, q436, t_a437⟩ := tm_atR I429 t431 (k := 9) rfl
                              refine tr_getK q436 d_Grouping_spread_156 f_Grouping_28_7 ?_
                              refine mv_iload d_Grouping_spread_159 rfl ?_
                              refine mv_dup2_11 d_Grouping_spread_161 rfl rfl ?_
                              refine tr_iald I429 t_a437 (by decide) d_Grouping_spread_162 (vp_in_iff.mpr (by omega)) (fun v438 => ?_)
                              refine mv_iconst (v := 1) d_Grouping_spread_163 (by decide) ?_
                              refine mv_isub d_Grouping_spread_164 ?_
                              refine tr_iastK tm_okF I429 t_a437 (by decide) (Or.inl (by decide)) d_Grouping_spread_165 (vp_in_iff.mpr (by omega)) (fun M439 I440 K441 => ?_)
                              refine mv_aload_n d_Grouping_spread_166 rfl rfl ?_
                              obtain ⟨a443, q442, t_a443⟩ := tm_atR I440 t431 (k := 11) rfl
                              refine tr_getK q442 d_Grouping_spread_167 f_Grouping_34_7 ?_
                              refine mv_iload d_Grouping_spread_170 rfl ?_
                              refine mv_dup2_11 d_Grouping_spread_172 rfl rfl ?_
                              refine tr_lald I440 t_a443 (by decide) d_Grouping_spread_173 (vp_in_iff.mpr (by omega)) (fun v444 => ?_)
                              refine mv_aload_n d_Grouping_spread_174 rfl rfl ?_
                              obtain ⟨a446, q445, t_a446⟩ := tm_atR I440 t431 (k := 5) rfl
                              refine tr_getK q445 d_Grouping_spread_175 f_Grouping_15_7 ?_
                              refine mv_iload_n d_Grouping_spread_178 rfl rfl ?_
                              refine tr_lald I440 t_a446 (by decide) d_Grouping_spread_179 (vp_in_iff.mpr (by omega)) (fun v447 => ?_)
                              refine mv_lsub d_Grouping_spread_180 ?_
                              refine tr_lastK tm_okF I440 t_a443 (by decide) (Or.inl (by decide)) d_Grouping_spread_181 (vp_in_iff.mpr (by omega)) (fun M448 I449 K450 => ?_)
                              refine mv_aload_n d_Grouping_spread_182 rfl rfl ?_
                              refine tr_getK (k := 10) (K450 _ 7 10 _ (K441 _ 7 10 _ q432)) d_Grouping_spread_183 f_Grouping_31_7 ?_
                              refine mv_iload d_Grouping_spread_186 rfl ?_
                              refine mv_iload d_Grouping_spread_188 rfl ?_
                              refine tr_iastK tm_okF I449 t433 (by decide) (Or.inl (by decide)) d_Grouping_spread_190 (vp_in_iff.mpr (by omega)) (fun M451 I452 K453 => ?_)
                              refine mv_iinc (v := (i5_336 + 1)) (lv' := [(5, .int (i5_336 + 1)), (6, .int v341), (3, .long (if (v12 - v17) < v4 then v4 else (v12 - v17))), (0, .ref o0), (1, .int x1), (2, .int x2)]) d_Grouping_spread_191 rfl rfl (by decide) rfl ?_
                              refine mv_goto (tgt := 89) d_Grouping_spread_194 (by decide) ?_
                              refine mv_locals (lv' := [(5, .int (i5_336 + 1)), (3, .long (if (v12 - v17) < v4 then v4 else (v12 - v17))), (0, .ref o0), (1, .int x1), (2, .int x2)]) (by intro q hq; simp only [List.mem_cons, List.not_mem_nil, or_false] at hq; rcases hq with rfl | rfl | rfl | rfl | rfl <;> rfl) ?_
                              have b454 : (i5_336 + 1).toInt = i5_336.toInt + 1 := mz_addn 1 1 (by decide) (by have := mz_lo i5_336; omega) (by have := mz_hi i5_336; omega)
                              exact (ih336 (i5_336 + 1) T427 M451 n426 I452 t431 (by first | omega | decide) (by omega))
                  exact mv_less (Nat.zero_le _) (Nat.zero_le _) (L89_336 4294967296 0 T8 M6 n7 I10 t13 (by first | omega | decide) (by show (2147483647 - (0 : Int) : Int) < _; decide))
                · refine mv_aload_n d_Grouping_spread_79 rfl rfl ?_
                  refine mv_lload_n d_Grouping_spread_80 rfl rfl ?_
                  refine mv_iload_n d_Grouping_spread_81 rfl rfl ?_
                  obtain ⟨_, b461, -⟩ := I10.1 _ _ t13
                  refine mv_callV (kc' := 0) (ks' := 0) (As := [.long (if (v12 - v17) < v4 then v4 else (v12 - v17)), .int x2]) (st9 := [.int x2, .long (if (v12 - v17) < v4 then v4 else (v12 - v17)), .ref o0]) d_Grouping_spread_82 lV_Grouping_80 b461 rfl (tc_Grouping_keepAsBest (d := (d + 4)) (x9 := x9) (o0 := o0) (x1 := (if (v12 - v17) < v4 then v4 else (v12 - v17))) (x2 := x2) t13 I10.start) rfl (Nat.le_of_ble_eq_true rfl) (Nat.le_of_ble_eq_true rfl) (Nat.le_of_ble_eq_true rfl) (hst := rfl) (fun b455r M456 n457 b455 => ?_)
                  obtain ⟨T458, J459, rfl⟩ := b455
                  have I460 := I10.call J459 (tm_sub (by decide)) (Or.inl rfl)
                  have t462 := J459.up t13
                  have q463 := J459.keep t13 (by decide) q14
                  have q464 := J459.keep t13 (by decide) q15
                  have t465 := J459.up t_a16
                  have q466 := J459.keep t13 (by decide) q320
                  exact mv_vret d_Grouping_spread_85 rfl ⟨_, I460, rfl⟩
            · exact mv_vret d_Grouping_spread_64 rfl ⟨_, I10, rfl⟩
    · exact mv_vret d_Grouping_spread_10 rfl ⟨_, I0, rfl⟩
def w_Grouping_spread_q5 : List Nat := [700, 703, 757, 758, 759, 760, 761]
theorem tc_Grouping_spread_q5 {g : mj_G} {l : Launch} {d : Nat} {T0 : tm_H} {M0 : mj_M} {n0 x9 : Nat} {o0 : Nat} {x1 : Int32} {x2 : Int32} (h_o0 : T0 o0 = some (0, 7, 0)) (hp : 4 ≤ x1.toInt) (I0 : tm_I tm_FT (tm_in w_Grouping_spread_q5) x9 T0 M0 n0 T0 M0 n0) : mj_Met g l kY_Grouping_spread (d + 6) [.ref o0, .int x1, .int x2] M0 n0 0 0 (tm_Q tm_FT (tm_in w_Grouping_spread_q5) x9 T0 M0 n0 (fun r _ _ => r = none)) := by
  refine mj_enter (by decide) (Nat.le_of_ble_eq_true rfl) ?_
  refine mv_iload_n d_Grouping_spread_0 rfl rfl ?_
  have := mz_hi x1
  refine mv_if_ltZ (tgt := 10) (a := x1.toInt) d_Grouping_spread_1 (by decide) rfl (fun b1 => ?_) (fun b1 => ?_)
  · exact mv_vret d_Grouping_spread_10 rfl ⟨_, I0, rfl⟩
  · refine mv_iload_n d_Grouping_spread_4 rfl rfl ?_
    refine mv_bipush (v := 8) d_Grouping_spread_5 (by decide) ?_
    have := mz_hi x1
    refine mv_icmp_leZ (tgt := 11) (a := x1.toInt) (b := 8) d_Grouping_spread_7 (by decide) rfl (by decide) (fun b2 => ?_) (fun b2 => ?_)
    · refine mv_aload_n d_Grouping_spread_11 rfl rfl ?_
      obtain ⟨v4, q3⟩ := tm_atL I0 h_o0 (k := 13) rfl
      refine tr_getK q3 d_Grouping_spread_12 f_Grouping_74_7 ?_
      refine mv_aload_n d_Grouping_spread_15 rfl rfl ?_
      refine mv_iload_n d_Grouping_spread_16 rfl rfl ?_
      obtain ⟨_, b11, -⟩ := I0.1 _ _ h_o0
      refine mv_callV (kc' := 0) (ks' := 0) (As := [.int x2]) (st9 := [.int x2, .ref o0, .long v4]) d_Grouping_spread_17 lV_Grouping_64 b11 rfl (tc_Grouping_idleOf (d := (d + 4)) (x9 := x9) (o0 := o0) (x1 := x2) h_o0 I0.start) rfl (Nat.le_of_ble_eq_true rfl) (Nat.le_of_ble_eq_true rfl) (Nat.le_of_ble_eq_true rfl) (hst := rfl) (fun b5r M6 n7 b5 => ?_)
      obtain ⟨T8, J9, v12, rfl⟩ := b5
      have I10 := I0.call J9 (tm_sub (by decide)) (Or.inl rfl)
      have t13 := J9.up h_o0
      have q14 := J9.keep h_o0 (by decide) q3
      refine mv_aload_n d_Grouping_spread_20 rfl rfl ?_
      obtain ⟨a16, q15, t_a16⟩ := tm_atR I10 t13 (k := 12) rfl
      refine tr_getK q15 d_Grouping_spread_21 f_Grouping_37_7 ?_
      refine mv_iload_n d_Grouping_spread_24 rfl rfl ?_
      refine tr_lald I10 t_a16 (by decide) d_Grouping_spread_25 (vp_in_iff.mpr (by omega)) (fun v17 => ?_)
      refine mv_lsub d_Grouping_spread_26 ?_
      refine mv_mmax_long (v := (if (v12 - v17) < v4 then v4 else (v12 - v17))) d_Grouping_spread_27 (mj_in1 (List.mem_of_getElem? (i := 1243) (by decide +kernel)) rfl) (Nat.le_of_ble_eq_true rfl) rfl ?_
      refine mv_lstore_n (lv' := [(3, .long (if (v12 - v17) < v4 then v4 else (v12 - v17))), (0, .ref o0), (1, .int x1), (2, .int x2)]) d_Grouping_spread_30 rfl (by decide) rfl ?_
      refine mv_aload_n d_Grouping_spread_31 rfl rfl ?_
      obtain ⟨v19, q18⟩ := tm_atI I10 t13 (k := 3) rfl
      refine tr_getK q18 d_Grouping_spread_32 f_Grouping_47_7 ?_
      have := mz_hi v19
      refine mv_if_eqZ (tgt := 65) (a := v19.toInt) d_Grouping_spread_35 (by decide) rfl (fun b20 => ?_) (fun b20 => ?_)
      · refine mv_iload_n d_Grouping_spread_65 rfl rfl ?_
        refine mv_aload_n d_Grouping_spread_66 rfl rfl ?_
        obtain ⟨v22, q21⟩ := tm_atI I10 t13 (k := 2) rfl
        refine tr_getK q21 d_Grouping_spread_67 f_Grouping_44_7 ?_
        have := mz_hi x1
        have := mz_hi v22
        refine mv_icmp_geZ (tgt := 79) (a := x1.toInt) (b := v22.toInt) d_Grouping_spread_70 (by decide) rfl rfl (fun b23 => ?_) (fun b23 => ?_)
        · refine mv_aload_n d_Grouping_spread_79 rfl rfl ?_
          refine mv_lload_n d_Grouping_spread_80 rfl rfl ?_
          refine mv_iload_n d_Grouping_spread_81 rfl rfl ?_
          obtain ⟨_, b30, -⟩ := I10.1 _ _ t13
          refine mv_callV (kc' := 0) (ks' := 0) (As := [.long (if (v12 - v17) < v4 then v4 else (v12 - v17)), .int x2]) (st9 := [.int x2, .long (if (v12 - v17) < v4 then v4 else (v12 - v17)), .ref o0]) d_Grouping_spread_82 lV_Grouping_80 b30 rfl (tc_Grouping_keepAsBest (d := (d + 5)) (x9 := x9) (o0 := o0) (x1 := (if (v12 - v17) < v4 then v4 else (v12 - v17))) (x2 := x2) t13 I10.start) rfl (Nat.le_of_ble_eq_true rfl) (Nat.le_of_ble_eq_true rfl) (Nat.le_of_ble_eq_true rfl) (hst := rfl) (fun b24r M25 n26 b24 => ?_)
          obtain ⟨T27, J28, rfl⟩ := b24
          have I29 := I10.call J28 (tm_sub (by decide)) (Or.inl rfl)
          have t31 := J28.up t13
          have q32 := J28.keep t13 (by decide) q14
          have q33 := J28.keep t13 (by decide) q15
          have t34 := J28.up t_a16
          have q35 := J28.keep t13 (by decide) q21
          exact mv_vret d_Grouping_spread_85 rfl ⟨_, I29, rfl⟩
        · refine mv_iload_n d_Grouping_spread_73 rfl rfl ?_
          refine mv_bipush (v := 8) d_Grouping_spread_74 (by decide) ?_
          have := mz_hi x1
          refine mv_icmp_neZ (tgt := 86) (a := x1.toInt) (b := 8) d_Grouping_spread_76 (by decide) rfl (by decide) (fun b36 => ?_) (fun b36 => ?_)
          · refine mv_iconst (v := 0) d_Grouping_spread_86 (by decide) ?_
            refine mv_istore (lv' := [(5, .int 0), (3, .long (if (v12 - v17) < v4 then v4 else (v12 - v17))), (0, .ref o0), (1, .int x1), (2, .int x2)]) d_Grouping_spread_87 (by decide) rfl ?_
            have L89_37 : ∀ (k : Nat) (i5_37 : Int32) (T_37 : tm_H) (M_37 : mj_M) (n_37 : Nat), tm_I tm_FT (tm_in w_Grouping_spread_q5) x9 T0 M0 n0 T_37 M_37 n_37 → T_37 o0 = some (0, 7, 0) → 0 ≤ i5_37.toInt → 2147483647 - i5_37.toInt < (k : Int) → mj_V g l kY_Grouping_spread (d + 6) 89 [(5, .int i5_37), (3, .long (if (v12 - v17) < v4 then v4 else (v12 - v17))), (0, .ref o0), (1, .int x1), (2, .int x2)] [] M_37 n_37 0 0 (tm_Q tm_FT (tm_in w_Grouping_spread_q5) x9 T0 M0 n0 (fun r _ _ => r = none)) := by
              intro k37
              induction k37 with
              | zero =>
                intro i5_37 T_37 M_37 n_37 I_37 h_q0_37 iv0_37 hk37
                have := mz_hi i5_37
                omega
              | succ k37 ih37 =>
                intro i5_37 T_37 M_37 n_37 I_37 h_q0_37 iv0_37 hk37
                refine mv_iload d_Grouping_spread_89 rfl ?_
                refine mv_iload_n d_Grouping_spread_91 rfl rfl ?_
                have := mz_hi i5_37
                have := mz_hi x2
                refine mv_icmp_gtZ (tgt := 197) (a := i5_37.toInt) (b := x2.toInt) d_Grouping_spread_92 (by decide) rfl rfl (fun b38 => ?_) (fun b38 => ?_)
                · exact mv_vret d_Grouping_spread_197 rfl ⟨_, I_37, rfl⟩
                · refine mv_iload d_Grouping_spread_95 rfl ?_
                  refine mv_bipush (v := 8) d_Grouping_spread_97 (by decide) ?_
                  have := mz_hi i5_37
                  refine mv_icmp_geZ (tgt := 197) (a := i5_37.toInt) (b := 8) d_Grouping_spread_99 (by decide) rfl (by decide) (fun b39 => ?_) (fun b39 => ?_)
                  · exact mv_vret d_Grouping_spread_197 rfl ⟨_, I_37, rfl⟩
                  · refine mv_aload_n d_Grouping_spread_102 rfl rfl ?_
                    obtain ⟨a41, q40, t_a41⟩ := tm_atR I_37 h_q0_37 (k := 10) rfl
                    refine tr_getK q40 d_Grouping_spread_103 f_Grouping_31_7 ?_
                    refine mv_iload d_Grouping_spread_106 rfl ?_
                    refine tr_iald I_37 t_a41 (by decide) d_Grouping_spread_108 (vp_in_iff.mpr (by omega)) (fun v42 => ?_)
                    refine mv_istore (lv' := [(6, .int v42), (5, .int i5_37), (3, .long (if (v12 - v17) < v4 then v4 else (v12 - v17))), (0, .ref o0), (1, .int x1), (2, .int x2)]) d_Grouping_spread_109 (by decide) rfl ?_
                    refine mv_aload_n d_Grouping_spread_111 rfl rfl ?_
                    refine mv_iload_n d_Grouping_spread_112 rfl rfl ?_
                    refine mv_iload d_Grouping_spread_113 rfl ?_
                    obtain ⟨_, b49, -⟩ := I_37.1 _ _ h_q0_37
                    refine mv_callV (kc' := 0) (ks' := 0) (As := [.int x1, .int i5_37]) (st9 := [.int i5_37, .int x1, .ref o0]) d_Grouping_spread_115 lV_Grouping_56 b49 rfl (tc_Grouping_put (d := (d + 5)) (x9 := x9) (o0 := o0) (x1 := x1) (x2 := i5_37) h_q0_37 I_37.start) rfl (Nat.le_of_ble_eq_true rfl) (Nat.le_of_ble_eq_true rfl) (Nat.le_of_ble_eq_true rfl) (hst := rfl) (fun b43r M44 n45 b43 => ?_)
                    obtain ⟨T46, J47, rfl⟩ := b43
                    have I48 := I_37.call J47 (tm_sub (by decide)) (Or.inl rfl)
                    have t50 := J47.up h_q0_37
                    have q51 := J47.keep h_q0_37 (by decide) q40
                    have t52 := J47.up t_a41
                    refine mv_aload_n d_Grouping_spread_118 rfl rfl ?_
                    refine mv_iload d_Grouping_spread_119 rfl ?_
                    obtain ⟨_, b59, -⟩ := I48.1 _ _ t50
                    refine mv_callV (kc' := 0) (ks' := 0) (As := [.int i5_37]) (st9 := [.int i5_37, .ref o0]) d_Grouping_spread_121 lV_Grouping_60 b59 rfl (tc_Grouping_holdsTogether (d := (d + 4)) (x9 := x9) (o0 := o0) (x1 := i5_37) t50 I48.start) rfl (Nat.le_of_ble_eq_true rfl) (Nat.le_of_ble_eq_true rfl) (Nat.le_of_ble_eq_true rfl) (hst := rfl) (fun b53r M54 n55 b53 => ?_)
                    obtain ⟨T56, J57, v60, rfl, b61, b62⟩ := b53
                    have I58 := I48.call J57 (tm_sub (by decide)) (Or.inl rfl)
                    have t63 := J57.up t50
                    have q64 := J57.keep t50 (by decide) q51
                    have t65 := J57.up t52
                    have := mz_hi v60
                    refine mv_if_eqZ (tgt := 155) (a := v60.toInt) d_Grouping_spread_124 (by decide) rfl (fun b66 => ?_) (fun b66 => ?_)
                    · refine mv_aload_n d_Grouping_spread_155 rfl rfl ?_
                      obtain ⟨a68, q67, t_a68⟩ := tm_atR I58 t63 (k := 9) rfl
                      refine tr_getK q67 d_Grouping_spread_156 f_Grouping_28_7 ?_
                      refine mv_iload d_Grouping_spread_159 rfl ?_
                      refine mv_dup2_11 d_Grouping_spread_161 rfl rfl ?_
                      refine tr_iald I58 t_a68 (by decide) d_Grouping_spread_162 (vp_in_iff.mpr (by omega)) (fun v69 => ?_)
                      refine mv_iconst (v := 1) d_Grouping_spread_163 (by decide) ?_
                      refine mv_isub d_Grouping_spread_164 ?_
                      refine tr_iastK tm_okF I58 t_a68 (by decide) (Or.inl (by decide)) d_Grouping_spread_165 (vp_in_iff.mpr (by omega)) (fun M70 I71 K72 => ?_)
                      refine mv_aload_n d_Grouping_spread_166 rfl rfl ?_
                      obtain ⟨a74, q73, t_a74⟩ := tm_atR I71 t63 (k := 11) rfl
                      refine tr_getK q73 d_Grouping_spread_167 f_Grouping_34_7 ?_
                      refine mv_iload d_Grouping_spread_170 rfl ?_
                      refine mv_dup2_11 d_Grouping_spread_172 rfl rfl ?_
                      refine tr_lald I71 t_a74 (by decide) d_Grouping_spread_173 (vp_in_iff.mpr (by omega)) (fun v75 => ?_)
                      refine mv_aload_n d_Grouping_spread_174 rfl rfl ?_
                      obtain ⟨a77, q76, t_a77⟩ := tm_atR I71 t63 (k := 5) rfl
                      refine tr_getK q76 d_Grouping_spread_175 f_Grouping_15_7 ?_
                      refine mv_iload_n d_Grouping_spread_178 rfl rfl ?_
                      refine tr_lald I71 t_a77 (by decide) d_Grouping_spread_179 (vp_in_iff.mpr (by omega)) (fun v78 => ?_)
                      refine mv_lsub d_Grouping_spread_180 ?_
                      refine tr_lastK tm_okF I71 t_a74 (by decide) (Or.inl (by decide)) d_Grouping_spread_181 (vp_in_iff.mpr (by omega)) (fun M79 I80 K81 => ?_)
                      refine mv_aload_n d_Grouping_spread_182 rfl rfl ?_
                      refine tr_getK (k := 10) (K81 _ 7 10 _ (K72 _ 7 10 _ q64)) d_Grouping_spread_183 f_Grouping_31_7 ?_
                      refine mv_iload d_Grouping_spread_186 rfl ?_
                      refine mv_iload d_Grouping_spread_188 rfl ?_
                      refine tr_iastK tm_okF I80 t65 (by decide) (Or.inl (by decide)) d_Grouping_spread_190 (vp_in_iff.mpr (by omega)) (fun M82 I83 K84 => ?_)
                      refine mv_iinc (v := (i5_37 + 1)) (lv' := [(5, .int (i5_37 + 1)), (6, .int v42), (3, .long (if (v12 - v17) < v4 then v4 else (v12 - v17))), (0, .ref o0), (1, .int x1), (2, .int x2)]) d_Grouping_spread_191 rfl rfl (by decide) rfl ?_
                      refine mv_goto (tgt := 89) d_Grouping_spread_194 (by decide) ?_
                      refine mv_locals (lv' := [(5, .int (i5_37 + 1)), (3, .long (if (v12 - v17) < v4 then v4 else (v12 - v17))), (0, .ref o0), (1, .int x1), (2, .int x2)]) (by intro q hq; simp only [List.mem_cons, List.not_mem_nil, or_false] at hq; rcases hq with rfl | rfl | rfl | rfl | rfl <;> rfl) ?_
                      have b85 : (i5_37 + 1).toInt = i5_37.toInt + 1 := mz_addn 1 1 (by decide) (by have := mz_lo i5_37; omega) (by have := mz_hi i5_37; omega)
                      exact (ih37 (i5_37 + 1) T56 M82 n55 I83 t63 (by first | omega | decide) (by omega))
                    · refine mv_aload_n d_Grouping_spread_127 rfl rfl ?_
                      obtain ⟨a87, q86, t_a87⟩ := tm_atR I58 t63 (k := 7) rfl
                      refine tr_getK q86 d_Grouping_spread_128 f_Grouping_22_7 ?_
                      refine mv_iload_n d_Grouping_spread_131 rfl rfl ?_
                      refine mv_iload d_Grouping_spread_132 rfl ?_
                      refine tr_iastK tm_okF I58 t_a87 (by decide) (Or.inl (by decide)) d_Grouping_spread_134 (vp_in_iff.mpr (by omega)) (fun M88 I89 K90 => ?_)
                      refine mv_aload_n d_Grouping_spread_135 rfl rfl ?_
                      refine mv_iload_n d_Grouping_spread_136 rfl rfl ?_
                      refine mv_iconst (v := 1) d_Grouping_spread_137 (by decide) ?_
                      refine mv_iadd d_Grouping_spread_138 ?_
                      refine mv_iload d_Grouping_spread_139 rfl ?_
                      refine mv_iload_n d_Grouping_spread_141 rfl rfl ?_
                      have := mz_hi i5_37
                      have := mz_hi x2
                      refine mv_icmp_neZ (tgt := 151) (a := i5_37.toInt) (b := x2.toInt) d_Grouping_spread_142 (by decide) rfl rfl (fun b91 => ?_) (fun b91 => ?_)
                      · refine mv_iload_n d_Grouping_spread_151 rfl rfl ?_
                        have b92 : (x1 + 1).toInt = x1.toInt + 1 := mz_addn 1 1 (by decide) (by omega) (by omega)
                        obtain ⟨_, b99, -⟩ := I89.1 _ _ t63
                        refine mv_callV (kc' := 0) (ks' := 0) (As := [.int (x1 + 1), .int x2]) (st9 := [.int x2, .int (x1 + 1), .ref o0]) d_Grouping_spread_152 lV_Grouping_77 b99 rfl (tc_Grouping_spread_q4 (d := d) (x9 := x9) (o0 := o0) (x1 := (x1 + 1)) (x2 := x2) t63 (by first | omega | decide) I89.start) rfl (Nat.le_of_ble_eq_true rfl) (Nat.le_of_ble_eq_true rfl) (Nat.le_of_ble_eq_true rfl) (hst := rfl) (fun b93r M94 n95 b93 => ?_)
                        obtain ⟨T96, J97, rfl⟩ := b93
                        have I98 := I89.call J97 (tm_sub (by decide)) (Or.inl rfl)
                        have t100 := J97.up t63
                        have q101 := J97.keep t63 (by decide) (K90 _ 7 10 _ q64)
                        have t102 := J97.up t65
                        have q103 := J97.keep t63 (by decide) (K90 _ 7 7 _ q86)
                        have t104 := J97.up t_a87
                        refine mv_aload_n d_Grouping_spread_155 rfl rfl ?_
                        obtain ⟨a106, q105, t_a106⟩ := tm_atR I98 t100 (k := 9) rfl
                        refine tr_getK q105 d_Grouping_spread_156 f_Grouping_28_7 ?_
                        refine mv_iload d_Grouping_spread_159 rfl ?_
                        refine mv_dup2_11 d_Grouping_spread_161 rfl rfl ?_
                        refine tr_iald I98 t_a106 (by decide) d_Grouping_spread_162 (vp_in_iff.mpr (by omega)) (fun v107 => ?_)
                        refine mv_iconst (v := 1) d_Grouping_spread_163 (by decide) ?_
                        refine mv_isub d_Grouping_spread_164 ?_
                        refine tr_iastK tm_okF I98 t_a106 (by decide) (Or.inl (by decide)) d_Grouping_spread_165 (vp_in_iff.mpr (by omega)) (fun M108 I109 K110 => ?_)
                        refine mv_aload_n d_Grouping_spread_166 rfl rfl ?_
                        obtain ⟨a112, q111, t_a112⟩ := tm_atR I109 t100 (k := 11) rfl
                        refine tr_getK q111 d_Grouping_spread_167 f_Grouping_34_7 ?_
                        refine mv_iload d_Grouping_spread_170 rfl ?_
                        refine mv_dup2_11 d_Grouping_spread_172 rfl rfl ?_
                        refine tr_lald I109 t_a112 (by decide) d_Grouping_spread_173 (vp_in_iff.mpr (by omega)) (fun v113 => ?_)
                        refine mv_aload_n d_Grouping_spread_174 rfl rfl ?_
                        obtain ⟨a115, q114, t_a115⟩ := tm_atR I109 t100 (k := 5) rfl
                        refine tr_getK q114 d_Grouping_spread_175 f_Grouping_15_7 ?_
                        refine mv_iload_n d_Grouping_spread_178 rfl rfl ?_
                        refine tr_lald I109 t_a115 (by decide) d_Grouping_spread_179 (vp_in_iff.mpr (by omega)) (fun v116 => ?_)
                        refine mv_lsub d_Grouping_spread_180 ?_
                        refine tr_lastK tm_okF I109 t_a112 (by decide) (Or.inl (by decide)) d_Grouping_spread_181 (vp_in_iff.mpr (by omega)) (fun M117 I118 K119 => ?_)
                        refine mv_aload_n d_Grouping_spread_182 rfl rfl ?_
                        refine tr_getK (k := 10) (K119 _ 7 10 _ (K110 _ 7 10 _ q101)) d_Grouping_spread_183 f_Grouping_31_7 ?_
                        refine mv_iload d_Grouping_spread_186 rfl ?_
                        refine mv_iload d_Grouping_spread_188 rfl ?_
                        refine tr_iastK tm_okF I118 t102 (by decide) (Or.inl (by decide)) d_Grouping_spread_190 (vp_in_iff.mpr (by omega)) (fun M120 I121 K122 => ?_)
                        refine mv_iinc (v := (i5_37 + 1)) (lv' := [(5, .int (i5_37 + 1)), (6, .int v42), (3, .long (if (v12 - v17) < v4 then v4 else (v12 - v17))), (0, .ref o0), (1, .int x1), (2, .int x2)]) d_Grouping_spread_191 rfl rfl (by decide) rfl ?_
                        refine mv_goto (tgt := 89) d_Grouping_spread_194 (by decide) ?_
                        refine mv_locals (lv' := [(5, .int (i5_37 + 1)), (3, .long (if (v12 - v17) < v4 then v4 else (v12 - v17))), (0, .ref o0), (1, .int x1), (2, .int x2)]) (by intro q hq; simp only [List.mem_cons, List.not_mem_nil, or_false] at hq; rcases hq with rfl | rfl | rfl | rfl | rfl <;> rfl) ?_
                        have b123 : (i5_37 + 1).toInt = i5_37.toInt + 1 := mz_addn 1 1 (by decide) (by have := mz_lo i5_37; omega) (by have := mz_hi i5_37; omega)
                        exact (ih37 (i5_37 + 1) T96 M120 n95 I121 t100 (by first | omega | decide) (by omega))
                      · refine mv_iload_n d_Grouping_spread_145 rfl rfl ?_
                        refine mv_iconst (v := 1) d_Grouping_spread_146 (by decide) ?_
                        refine mv_iadd d_Grouping_spread_147 ?_
                        refine mv_goto (tgt := 152) d_Grouping_spread_148 (by decide) ?_
                        have b124 : (x1 + 1).toInt = x1.toInt + 1 := mz_addn 1 1 (by decide) (by omega) (by omega)
                        obtain ⟨_, b131, -⟩ := I89.1 _ _ t63
                        refine mv_callV (kc' := 0) (ks' := 0) (As := [.int (x1 + 1), .int (x2 + 1)]) (st9 := [.int (x2 + 1), .int (x1 + 1), .ref o0]) d_Grouping_spread_152 lV_Grouping_77 b131 rfl (tc_Grouping_spread_q4 (d := d) (x9 := x9) (o0 := o0) (x1 := (x1 + 1)) (x2 := (x2 + 1)) t63 (by first | omega | decide) I89.start) rfl (Nat.le_of_ble_eq_true rfl) (Nat.le_of_ble_eq_true rfl) (Nat.le_of_ble_eq_true rfl) (hst := rfl) (fun b125r M126 n127 b125 => ?_)
                        obtain ⟨T128, J129, rfl⟩ := b125
                        have I130 := I89.call J129 (tm_sub (by decide)) (Or.inl rfl)
                        have t132 := J129.up t63
                        have q133 := J129.keep t63 (by decide) (K90 _ 7 10 _ q64)
                        have t134 := J129.up t65
                        have q135 := J129.keep t63 (by decide) (K90 _ 7 7 _ q86)
                        have t136 := J129.up t_a87
                        refine mv_aload_n d_Grouping_spread_155 rfl rfl ?_
                        obtain ⟨a138, q137, t_a138⟩ := tm_atR I130 t132 (k := 9) rfl
                        refine tr_getK q137 d_Grouping_spread_156 f_Grouping_28_7 ?_
                        refine mv_iload d_Grouping_spread_159 rfl ?_
                        refine mv_dup2_11 d_Grouping_spread_161 rfl rfl ?_
                        refine tr_iald I130 t_a138 (by decide) d_Grouping_spread_162 (vp_in_iff.mpr (by omega)) (fun v139 => ?_)
                        refine mv_iconst (v := 1) d_Grouping_spread_163 (by decide) ?_
                        refine mv_isub d_Grouping_spread_164 ?_
                        refine tr_iastK tm_okF I130 t_a138 (by decide) (Or.inl (by decide)) d_Grouping_spread_165 (vp_in_iff.mpr (by omega)) (fun M140 I141 K142 => ?_)
                        refine mv_aload_n d_Grouping_spread_166 rfl rfl ?_
                        obtain ⟨a144, q143, t_a144⟩ := tm_atR I141 t132 (k := 11) rfl
                        refine tr_getK q143 d_Grouping_spread_167 f_Grouping_34_7 ?_
                        refine mv_iload d_Grouping_spread_170 rfl ?_
                        refine mv_dup2_11 d_Grouping_spread_172 rfl rfl ?_
                        refine tr_lald I141 t_a144 (by decide) d_Grouping_spread_173 (vp_in_iff.mpr (by omega)) (fun v145 => ?_)
                        refine mv_aload_n d_Grouping_spread_174 rfl rfl ?_
                        obtain ⟨a147, q146, t_a147⟩ := tm_atR I141 t132 (k := 5) rfl
                        refine tr_getK q146 d_Grouping_spread_175 f_Grouping_15_7 ?_
                        refine mv_iload_n d_Grouping_spread_178 rfl rfl ?_
                        refine tr_lald I141 t_a147 (by decide) d_Grouping_spread_179 (vp_in_iff.mpr (by omega)) (fun v148 => ?_)
                        refine mv_lsub d_Grouping_spread_180 ?_
                        refine tr_lastK tm_okF I141 t_a144 (by decide) (Or.inl (by decide)) d_Grouping_spread_181 (vp_in_iff.mpr (by omega)) (fun M149 I150 K151 => ?_)
                        refine mv_aload_n d_Grouping_spread_182 rfl rfl ?_
                        refine tr_getK (k := 10) (K151 _ 7 10 _ (K142 _ 7 10 _ q133)) d_Grouping_spread_183 f_Grouping_31_7 ?_
                        refine mv_iload d_Grouping_spread_186 rfl ?_
                        refine mv_iload d_Grouping_spread_188 rfl ?_
                        refine tr_iastK tm_okF I150 t134 (by decide) (Or.inl (by decide)) d_Grouping_spread_190 (vp_in_iff.mpr (by omega)) (fun M152 I153 K154 => ?_)
                        refine mv_iinc (v := (i5_37 + 1)) (lv' := [(5, .int (i5_37 + 1)), (6, .int v42), (3, .long (if (v12 - v17) < v4 then v4 else (v12 - v17))), (0, .ref o0), (1, .int x1), (2, .int x2)]) d_Grouping_spread_191 rfl rfl (by decide) rfl ?_
                        refine mv_goto (tgt := 89) d_Grouping_spread_194 (by decide) ?_
                        refine mv_locals (lv' := [(5, .int (i5_37 + 1)), (3, .long (if (v12 - v17) < v4 then v4 else (v12 - v17))), (0, .ref o0), (1, .int x1), (2, .int x2)]) (by intro q hq; simp only [List.mem_cons, List.not_mem_nil, or_false] at hq; rcases hq with rfl | rfl | rfl | rfl | rfl <;> rfl) ?_
                        have b155 : (i5_37 + 1).toInt = i5_37.toInt + 1 := mz_addn 1 1 (by decide) (by have := mz_lo i5_37; omega) (by have := mz_hi i5_37; omega)
                        exact (ih37 (i5_37 + 1) T128 M152 n127 I153 t132 (by first | omega | decide) (by omega))
            exact mv_less (Nat.zero_le _) (Nat.zero_le _) (L89_37 4294967296 0 T8 M6 n7 I10 t13 (by first | omega | decide) (by show (2147483647 - (0 : Int) : Int) < _; decide))
          · refine mv_aload_n d_Grouping_spread_79 rfl rfl ?_
            refine mv_lload_n d_Grouping_spread_80 rfl rfl ?_
            refine mv_iload_n d_Grouping_spread_81 rfl rfl ?_
            obtain ⟨_, b162, -⟩ := I10.1 _ _ t13
            refine mv_callV (kc' := 0) (ks' := 0) (As := [.long (if (v12 - v17) < v4 then v4 else (v12 - v17)), .int x2]) (st9 := [.int x2, .long (if (v12 - v17) < v4 then v4 else (v12 - v17)), .ref o0]) d_Grouping_spread_82 lV_Grouping_80 b162 rfl (tc_Grouping_keepAsBest (d := (d + 5)) (x9 := x9) (o0 := o0) (x1 := (if (v12 - v17) < v4 then v4 else (v12 - v17))) (x2 := x2) t13 I10.start) rfl (Nat.le_of_ble_eq_true rfl) (Nat.le_of_ble_eq_true rfl) (Nat.le_of_ble_eq_true rfl) (hst := rfl) (fun b156r M157 n158 b156 => ?_)
            obtain ⟨T159, J160, rfl⟩ := b156
            have I161 := I10.call J160 (tm_sub (by decide)) (Or.inl rfl)
            have t163 := J160.up t13
            have q164 := J160.keep t13 (by decide) q14
            have q165 := J160.keep t13 (by decide) q15
            have t166 := J160.up t_a16
            have q167 := J160.keep t13 (by decide) q21
            exact mv_vret d_Grouping_spread_85 rfl ⟨_, I161, rfl⟩
      · refine mv_lload_n d_Grouping_spread_38 rfl rfl ?_
        refine mv_aload_n d_Grouping_spread_39 rfl rfl ?_
        obtain ⟨v169, q168⟩ := tm_atL I10 t13 (k := 0) rfl
        refine tr_getK q168 d_Grouping_spread_40 f_Grouping_50_7 ?_
        refine mv_lgtZ (tgt := 64) (a := (if (v12 - v17) < v4 then v4 else (v12 - v17)).toInt) (b := v169.toInt) d_Grouping_spread_43 d_Grouping_spread_44 (by decide) rfl rfl (fun b170 => ?_) (fun b170 => ?_)
        · exact mv_vret d_Grouping_spread_64 rfl ⟨_, I10, rfl⟩
        · refine mv_lload_n d_Grouping_spread_47 rfl rfl ?_
          refine mv_aload_n d_Grouping_spread_48 rfl rfl ?_
          refine tr_getK (k := 0) q168 d_Grouping_spread_49 f_Grouping_50_7 ?_
          refine mv_lneZ (tgt := 65) (a := (if (v12 - v17) < v4 then v4 else (v12 - v17)).toInt) (b := v169.toInt) d_Grouping_spread_52 d_Grouping_spread_53 (by decide) rfl rfl (fun b171 => ?_) (fun b171 => ?_)
          · refine mv_iload_n d_Grouping_spread_65 rfl rfl ?_
            refine mv_aload_n d_Grouping_spread_66 rfl rfl ?_
            obtain ⟨v173, q172⟩ := tm_atI I10 t13 (k := 2) rfl
            refine tr_getK q172 d_Grouping_spread_67 f_Grouping_44_7 ?_
            have := mz_hi x1
            have := mz_hi v173
            refine mv_icmp_geZ (tgt := 79) (a := x1.toInt) (b := v173.toInt) d_Grouping_spread_70 (by decide) rfl rfl (fun b174 => ?_) (fun b174 => ?_)
            · refine mv_aload_n d_Grouping_spread_79 rfl rfl ?_
              refine mv_lload_n d_Grouping_spread_80 rfl rfl ?_
              refine mv_iload_n d_Grouping_spread_81 rfl rfl ?_
              obtain ⟨_, b181, -⟩ := I10.1 _ _ t13
              refine mv_callV (kc' := 0) (ks' := 0) (As := [.long (if (v12 - v17) < v4 then v4 else (v12 - v17)), .int x2]) (st9 := [.int x2, .long (if (v12 - v17) < v4 then v4 else (v12 - v17)), .ref o0]) d_Grouping_spread_82 lV_Grouping_80 b181 rfl (tc_Grouping_keepAsBest (d := (d + 5)) (x9 := x9) (o0 := o0) (x1 := (if (v12 - v17) < v4 then v4 else (v12 - v17))) (x2 := x2) t13 I10.start) rfl (Nat.le_of_ble_eq_true rfl) (Nat.le_of_ble_eq_true rfl) (Nat.le_of_ble_eq_true rfl) (hst := rfl) (fun b175r M176 n177 b175 => ?_)
              obtain ⟨T178, J179, rfl⟩ := b175
              have I180 := I10.call J179 (tm_sub (by decide)) (Or.inl rfl)
              have t182 := J179.up t13
              have q183 := J179.keep t13 (by decide) q14
              have q184 := J179.keep t13 (by decide) q15
              have t185 := J179.up t_a16
              have q186 := J179.keep t13 (by decide) q172
              exact mv_vret d_Grouping_spread_85 rfl ⟨_, I180, rfl⟩
            · refine mv_iload_n d_Grouping_spread_73 rfl rfl ?_
              refine mv_bipush (v := 8) d_Grouping_spread_74 (by decide) ?_
              have := mz_hi x1
              refine mv_icmp_neZ (tgt := 86) (a := x1.toInt) (b := 8) d_Grouping_spread_76 (by decide) rfl (by decide) (fun b187 => ?_) (fun b187 => ?_)
              · refine mv_iconst (v := 0) d_Grouping_spread_86 (by decide) ?_
                refine mv_istore (lv' := [(5, .int 0), (3, .long (if (v12 - v17) < v4 then v4 else (v12 - v17))), (0, .ref o0), (1, .int x1), (2, .int x2)]) d_Grouping_spread_87 (by decide) rfl ?_
                have L89_188 : ∀ (k : Nat) (i5_188 : Int32) (T_188 : tm_H) (M_188 : mj_M) (n_188 : Nat), tm_I tm_FT (tm_in w_Grouping_spread_q5) x9 T0 M0 n0 T_188 M_188 n_188 → T_188 o0 = some (0, 7, 0) → 0 ≤ i5_188.toInt → 2147483647 - i5_188.toInt < (k : Int) → mj_V g l kY_Grouping_spread (d + 6) 89 [(5, .int i5_188), (3, .long (if (v12 - v17) < v4 then v4 else (v12 - v17))), (0, .ref o0), (1, .int x1), (2, .int x2)] [] M_188 n_188 0 0 (tm_Q tm_FT (tm_in w_Grouping_spread_q5) x9 T0 M0 n0 (fun r _ _ => r = none)) := by
                  intro k188
                  induction k188 with
                  | zero =>
                    intro i5_188 T_188 M_188 n_188 I_188 h_q0_188 iv0_188 hk188
                    have := mz_hi i5_188
                    omega
                  | succ k188 ih188 =>
                    intro i5_188 T_188 M_188 n_188 I_188 h_q0_188 iv0_188 hk188
                    refine mv_iload d_Grouping_spread_89 rfl ?_
                    refine mv_iload_n d_Grouping_spread_91 rfl rfl ?_
                    have := mz_hi i5_188
                    have := mz_hi x2
                    refine mv_icmp_gtZ (tgt := 197) (a := i5_188.toInt) (b := x2.toInt) d_Grouping_spread_92 (by decide) rfl rfl (fun b189 => ?_) (fun b189 => ?_)
                    · exact mv_vret d_Grouping_spread_197 rfl ⟨_, I_188, rfl⟩
                    · refine mv_iload d_Grouping_spread_95 rfl ?_
                      refine mv_bipush (v := 8) d_Grouping_spread_97 (by decide) ?_
                      have := mz_hi i5_188
                      refine mv_icmp_geZ (tgt := 197) (a := i5_188.toInt) (b := 8) d_Grouping_spread_99 (by decide) rfl (by decide) (fun b190 => ?_) (fun b190 => ?_)
                      · exact mv_vret d_Grouping_spread_197 rfl ⟨_, I_188, rfl⟩
                      · refine mv_aload_n d_Grouping_spread_102 rfl rfl ?_
                        obtain ⟨a192, q191, t_a192⟩ := tm_atR I_188 h_q0_188 (k := 10) rfl
                        refine tr_getK q191 d_Grouping_spread_103 f_Grouping_31_7 ?_
                        refine mv_iload d_Grouping_spread_106 rfl ?_
                        refine tr_iald I_188 t_a192 (by decide) d_Grouping_spread_108 (vp_in_iff.mpr (by omega)) (fun v193 => ?_)
                        refine mv_istore (lv' := [(6, .int v193), (5, .int i5_188), (3, .long (if (v12 - v17) < v4 then v4 else (v12 - v17))), (0, .ref o0), (1, .int x1), (2, .int x2)]) d_Grouping_spread_109 (by decide) rfl ?_
                        refine mv_aload_n d_Grouping_spread_111 rfl rfl ?_
                        refine mv_iload_n d_Grouping_spread_112 rfl rfl ?_
                        refine mv_iload d_Grouping_spread_113 rfl ?_
                        obtain ⟨_, b200, -⟩ := I_188.1 _ _ h_q0_188
                        refine mv_callV (kc' := 0) (ks' := 0) (As := [.int x1, .int i5_188]) (st9 := [.int i5_188, .int x1, .ref o0]) d_Grouping_spread_115 lV_Grouping_56 b200 rfl (tc_Grouping_put (d := (d + 5)) (x9 := x9) (o0 := o0) (x1 := x1) (x2 := i5_188) h_q0_188 I_188.start) rfl (Nat.le_of_ble_eq_true rfl) (Nat.le_of_ble_eq_true rfl) (Nat.le_of_ble_eq_true rfl) (hst := rfl) (fun b194r M195 n196 b194 => ?_)
                        obtain ⟨T197, J198, rfl⟩ := b194
                        have I199 := I_188.call J198 (tm_sub (by decide)) (Or.inl rfl)
                        have t201 := J198.up h_q0_188
                        have q202 := J198.keep h_q0_188 (by decide) q191
                        have t203 := J198.up t_a192
                        refine mv_aload_n d_Grouping_spread_118 rfl rfl ?_
                        refine mv_iload d_Grouping_spread_119 rfl ?_
                        obtain ⟨_, b210, -⟩ := I199.1 _ _ t201
                        refine mv_callV (kc' := 0) (ks' := 0) (As := [.int i5_188]) (st9 := [.int i5_188, .ref o0]) d_Grouping_spread_121 lV_Grouping_60 b210 rfl (tc_Grouping_holdsTogether (d := (d + 4)) (x9 := x9) (o0 := o0) (x1 := i5_188) t201 I199.start) rfl (Nat.le_of_ble_eq_true rfl) (Nat.le_of_ble_eq_true rfl) (Nat.le_of_ble_eq_true rfl) (hst := rfl) (fun b204r M205 n206 b204 => ?_)
                        obtain ⟨T207, J208, v211, rfl, b212, b213⟩ := b204
                        have I209 := I199.call J208 (tm_sub (by decide)) (Or.inl rfl)
                        have t214 := J208.up t201
                        have q215 := J208.keep t201 (by decide) q202
                        have t216 := J208.up t203
                        have := mz_hi v211
                        refine mv_if_eqZ (tgt := 155) (a := v211.toInt) d_Grouping_spread_124 (by decide) rfl (fun b217 => ?_) (fun b217 => ?_)
                        · refine mv_aload_n d_Grouping_spread_155 rfl rfl ?_
                          obtain ⟨a219, q218, t_a219⟩ := tm_atR I209 t214 (k := 9) rfl
                          refine tr_getK q218 d_Grouping_spread_156 f_Grouping_28_7 ?_
                          refine mv_iload d_Grouping_spread_159 rfl ?_
                          refine mv_dup2_11 d_Grouping_spread_161 rfl rfl ?_
                          refine tr_iald I209 t_a219 (by decide) d_Grouping_spread_162 (vp_in_iff.mpr (by omega)) (fun v220 => ?_)
                          refine mv_iconst (v := 1) d_Grouping_spread_163 (by decide) ?_
                          refine mv_isub d_Grouping_spread_164 ?_
                          refine tr_iastK tm_okF I209 t_a219 (by decide) (Or.inl (by decide)) d_Grouping_spread_165 (vp_in_iff.mpr (by omega)) (fun M221 I222 K223 => ?_)
                          refine mv_aload_n d_Grouping_spread_166 rfl rfl ?_
                          obtain ⟨a225, q224, t_a225⟩ := tm_atR I222 t214 (k := 11) rfl
                          refine tr_getK q224 d_Grouping_spread_167 f_Grouping_34_7 ?_
                          refine mv_iload d_Grouping_spread_170 rfl ?_
                          refine mv_dup2_11 d_Grouping_spread_172 rfl rfl ?_
                          refine tr_lald I222 t_a225 (by decide) d_Grouping_spread_173 (vp_in_iff.mpr (by omega)) (fun v226 => ?_)
                          refine mv_aload_n d_Grouping_spread_174 rfl rfl ?_
                          obtain ⟨a228, q227, t_a228⟩ := tm_atR I222 t214 (k := 5) rfl
                          refine tr_getK q227 d_Grouping_spread_175 f_Grouping_15_7 ?_
                          refine mv_iload_n d_Grouping_spread_178 rfl rfl ?_
                          refine tr_lald I222 t_a228 (by decide) d_Grouping_spread_179 (vp_in_iff.mpr (by omega)) (fun v229 => ?_)
                          refine mv_lsub d_Grouping_spread_180 ?_
                          refine tr_lastK tm_okF I222 t_a225 (by decide) (Or.inl (by decide)) d_Grouping_spread_181 (vp_in_iff.mpr (by omega)) (fun M230 I231 K232 => ?_)
                          refine mv_aload_n d_Grouping_spread_182 rfl rfl ?_
                          refine tr_getK (k := 10) (K232 _ 7 10 _ (K223 _ 7 10 _ q215)) d_Grouping_spread_183 f_Grouping_31_7 ?_
                          refine mv_iload d_Grouping_spread_186 rfl ?_
                          refine mv_iload d_Grouping_spread_188 rfl ?_
                          refine tr_iastK tm_okF I231 t216 (by decide) (Or.inl (by decide)) d_Grouping_spread_190 (vp_in_iff.mpr (by omega)) (fun M233 I234 K235 => ?_)
                          refine mv_iinc (v := (i5_188 + 1)) (lv' := [(5, .int (i5_188 + 1)), (6, .int v193), (3, .long (if (v12 - v17) < v4 then v4 else (v12 - v17))), (0, .ref o0), (1, .int x1), (2, .int x2)]) d_Grouping_spread_191 rfl rfl (by decide) rfl ?_
                          refine mv_goto (tgt := 89) d_Grouping_spread_194 (by decide) ?_
                          refine mv_locals (lv' := [(5, .int (i5_188 + 1)), (3, .long (if (v12 - v17) < v4 then v4 else (v12 - v17))), (0, .ref o0), (1, .int x1), (2, .int x2)]) (by intro q hq; simp only [List.mem_cons, List.not_mem_nil, or_false] at hq; rcases hq with rfl | rfl | rfl | rfl | rfl <;> rfl) ?_
                          have b236 : (i5_188 + 1).toInt = i5_188.toInt + 1 := mz_addn 1 1 (by decide) (by have := mz_lo i5_188; omega) (by have := mz_hi i5_188; omega)
                          exact (ih188 (i5_188 + 1) T207 M233 n206 I234 t214 (by first | omega | decide) (by omega))
                        · refine mv_aload_n d_Grouping_spread_127 rfl rfl ?_
                          obtain ⟨a238, q237, t_a238⟩ := tm_atR I209 t214 (k := 7) rfl
                          refine tr_getK q237 d_Grouping_spread_128 f_Grouping_22_7 ?_
                          refine mv_iload_n d_Grouping_spread_131 rfl rfl ?_
                          refine mv_iload d_Grouping_spread_132 rfl ?_
                          refine tr_iastK tm_okF I209 t_a238 (by decide) (Or.inl (by decide)) d_Grouping_spread_134 (vp_in_iff.mpr (by omega)) (fun M239 I240 K241 => ?_)
                          refine mv_aload_n d_Grouping_spread_135 rfl rfl ?_
                          refine mv_iload_n d_Grouping_spread_136 rfl rfl ?_
                          refine mv_iconst (v := 1) d_Grouping_spread_137 (by decide) ?_
                          refine mv_iadd d_Grouping_spread_138 ?_
                          refine mv_iload d_Grouping_spread_139 rfl ?_
                          refine mv_iload_n d_Grouping_spread_141 rfl rfl ?_
                          have := mz_hi i5_188
                          have := mz_hi x2
                          refine mv_icmp_neZ (tgt := 151) (a := i5_188.toInt) (b := x2.toInt) d_Grouping_spread_142 (by decide) rfl rfl (fun b242 => ?_) (fun b242 => ?_)
                          · refine mv_iload_n d_Grouping_spread_151 rfl rfl ?_
                            have b243 : (x1 + 1).toInt = x1.toInt + 1 := mz_addn 1 1 (by decide) (by omega) (by omega)
                            obtain ⟨_, b250, -⟩ := I240.1 _ _ t214
                            refine mv_callV (kc' := 0) (ks' := 0) (As := [.int (x1 + 1), .int x2]) (st9 := [.int x2, .int (x1 + 1), .ref o0]) d_Grouping_spread_152 lV_Grouping_77 b250 rfl (tc_Grouping_spread_q4 (d := d) (x9 := x9) (o0 := o0) (x1 := (x1 + 1)) (x2 := x2) t214 (by first | omega | decide) I240.start) rfl (Nat.le_of_ble_eq_true rfl) (Nat.le_of_ble_eq_true rfl) (Nat.le_of_ble_eq_true rfl) (hst := rfl) (fun b244r M245 n246 b244 => ?_)
                            obtain ⟨T247, J248, rfl⟩ := b244
                            have I249 := I240.call J248 (tm_sub (by decide)) (Or.inl rfl)
                            have t251 := J248.up t214
                            have q252 := J248.keep t214 (by decide) (K241 _ 7 10 _ q215)
                            have t253 := J248.up t216
                            have q254 := J248.keep t214 (by decide) (K241 _ 7 7 _ q237)
                            have t255 := J248.up t_a238
                            refine mv_aload_n d_Grouping_spread_155 rfl rfl ?_
                            obtain ⟨a257, q256, t_a257⟩ := tm_atR I249 t251 (k := 9) rfl
                            refine tr_getK q256 d_Grouping_spread_156 f_Grouping_28_7 ?_
                            refine mv_iload d_Grouping_spread_159 rfl ?_
                            refine mv_dup2_11 d_Grouping_spread_161 rfl rfl ?_
                            refine tr_iald I249 t_a257 (by decide) d_Grouping_spread_162 (vp_in_iff.mpr (by omega)) (fun v258 => ?_)
                            refine mv_iconst (v := 1) d_Grouping_spread_163 (by decide) ?_
                            refine mv_isub d_Grouping_spread_164 ?_
                            refine tr_iastK tm_okF I249 t_a257 (by decide) (Or.inl (by decide)) d_Grouping_spread_165 (vp_in_iff.mpr (by omega)) (fun M259 I260 K261 => ?_)
                            refine mv_aload_n d_Grouping_spread_166 rfl rfl ?_
                            obtain ⟨a263, q262, t_a263⟩ := tm_atR I260 t251 (k := 11) rfl
                            refine tr_getK q262 d_Grouping_spread_167 f_Grouping_34_7 ?_
                            refine mv_iload d_Grouping_spread_170 rfl ?_
                            refine mv_dup2_11 d_Grouping_spread_172 rfl rfl ?_
                            refine tr_lald I260 t_a263 (by decide) d_Grouping_spread_173 (vp_in_iff.mpr (by omega)) (fun v264 => ?_)
                            refine mv_aload_n d_Grouping_spread_174 rfl rfl ?_
                            obtain ⟨a266, q265, t_a266⟩ := tm_atR I260 t251 (k := 5) rfl
                            refine tr_getK q265 d_Grouping_spread_175 f_Grouping_15_7 ?_
                            refine mv_iload_n d_Grouping_spread_178 rfl rfl ?_
                            refine tr_lald I260 t_a266 (by decide) d_Grouping_spread_179 (vp_in_iff.mpr (by omega)) (fun v267 => ?_)
                            refine mv_lsub d_Grouping_spread_180 ?_
                            refine tr_lastK tm_okF I260 t_a263 (by decide) (Or.inl (by decide)) d_Grouping_spread_181 (vp_in_iff.mpr (by omega)) (fun M268 I269 K270 => ?_)
                            refine mv_aload_n d_Grouping_spread_182 rfl rfl ?_
                            refine tr_getK (k := 10) (K270 _ 7 10 _ (K261 _ 7 10 _ q252)) d_Grouping_spread_183 f_Grouping_31_7 ?_
                            refine mv_iload d_Grouping_spread_186 rfl ?_
                            refine mv_iload d_Grouping_spread_188 rfl ?_
                            refine tr_iastK tm_okF I269 t253 (by decide) (Or.inl (by decide)) d_Grouping_spread_190 (vp_in_iff.mpr (by omega)) (fun M271 I272 K273 => ?_)
                            refine mv_iinc (v := (i5_188 + 1)) (lv' := [(5, .int (i5_188 + 1)), (6, .int v193), (3, .long (if (v12 - v17) < v4 then v4 else (v12 - v17))), (0, .ref o0), (1, .int x1), (2, .int x2)]) d_Grouping_spread_191 rfl rfl (by decide) rfl ?_
                            refine mv_goto (tgt := 89) d_Grouping_spread_194 (by decide) ?_
                            refine mv_locals (lv' := [(5, .int (i5_188 + 1)), (3, .long (if (v12 - v17) < v4 then v4 else (v12 - v17))), (0, .ref o0), (1, .int x1), (2, .int x2)]) (by intro q hq; simp only [List.mem_cons, List.not_mem_nil, or_false] at hq; rcases hq with rfl | rfl | rfl | rfl | rfl <;> rfl) ?_
                            have b274 : (i5_188 + 1).toInt = i5_188.toInt + 1 := mz_addn 1 1 (by decide) (by have := mz_lo i5_188; omega) (by have := mz_hi i5_188; omega)
                            exact (ih188 (i5_188 + 1) T247 M271 n246 I272 t251 (by first | omega | decide) (by omega))
                          · refine mv_iload_n d_Grouping_spread_145 rfl rfl ?_
                            refine mv_iconst (v := 1) d_Grouping_spread_146 (by decide) ?_
                            refine mv_iadd d_Grouping_spread_147 ?_
                            refine mv_goto (tgt := 152) d_Grouping_spread_148 (by decide) ?_
                            have b275 : (x1 + 1).toInt = x1.toInt + 1 := mz_addn 1 1 (by decide) (by omega) (by omega)
                            obtain ⟨_, b282, -⟩ := I240.1 _ _ t214
                            refine mv_callV (kc' := 0) (ks' := 0) (As := [.int (x1 + 1), .int (x2 + 1)]) (st9 := [.int (x2 + 1), .int (x1 + 1), .ref o0]) d_Grouping_spread_152 lV_Grouping_77 b282 rfl (tc_Grouping_spread_q4 (d := d) (x9 := x9) (o0 := o0) (x1 := (x1 + 1)) (x2 := (x2 + 1)) t214 (by first | omega | decide) I240.start) rfl (Nat.le_of_ble_eq_true rfl) (Nat.le_of_ble_eq_true rfl) (Nat.le_of_ble_eq_true rfl) (hst := rfl) (fun b276r M277 n278 b276 => ?_)
                            obtain ⟨T279, J280, rfl⟩ := b276
                            have I281 := I240.call J280 (tm_sub (by decide)) (Or.inl rfl)
                            have t283 := J280.up t214
                            have q284 := J280.keep t214 (by decide) (K241 _ 7 10 _ q215)
                            have t285 := J280.up t216
                            have q286 := J280.keep t214 (by decide) (K241 _ 7 7 _ q237)
                            have t287 := J280.up t_a238
                            refine mv_aload_n d_Grouping_spread_155 rfl rfl ?_
                            obtain ⟨a289, q288, t_a289⟩ := tm_atR I281 t283 (k := 9) rfl
                            refine tr_getK q288 d_Grouping_spread_156 f_Grouping_28_7 ?_
                            refine mv_iload d_Grouping_spread_159 rfl ?_
                            refine mv_dup2_11 d_Grouping_spread_161 rfl rfl ?_
                            refine tr_iald I281 t_a289 (by decide) d_Grouping_spread_162 (vp_in_iff.mpr (by omega)) (fun v290 => ?_)
                            refine mv_iconst (v := 1) d_Grouping_spread_163 (by decide) ?_
                            refine mv_isub d_Grouping_spread_164 ?_
                            refine tr_iastK tm_okF I281 t_a289 (by decide) (Or.inl (by decide)) d_Grouping_spread_165 (vp_in_iff.mpr (by omega)) (fun M291 I292 K293 => ?_)
                            refine mv_aload_n d_Grouping_spread_166 rfl rfl ?_
                            obtain ⟨a295, q294, t_a295⟩ := tm_atR I292 t283 (k := 11) rfl
                            refine tr_getK q294 d_Grouping_spread_167 f_Grouping_34_7 ?_
                            refine mv_iload d_Grouping_spread_170 rfl ?_
                            refine mv_dup2_11 d_Grouping_spread_172 rfl rfl ?_
                            refine tr_lald I292 t_a295 (by decide) d_Grouping_spread_173 (vp_in_iff.mpr (by omega)) (fun v296 => ?_)
                            refine mv_aload_n d_Grouping_spread_174 rfl rfl ?_
                            obtain ⟨a298, q297, t_a298⟩ := tm_atR I292 t283 (k := 5) rfl
                            refine tr_getK q297 d_Grouping_spread_175 f_Grouping_15_7 ?_
                            refine mv_iload_n d_Grouping_spread_178 rfl rfl ?_
                            refine tr_lald I292 t_a298 (by decide) d_Grouping_spread_179 (vp_in_iff.mpr (by omega)) (fun v299 => ?_)
                            refine mv_lsub d_Grouping_spread_180 ?_
                            refine tr_lastK tm_okF I292 t_a295 (by decide) (Or.inl (by decide)) d_Grouping_spread_181 (vp_in_iff.mpr (by omega)) (fun M300 I301 K302 => ?_)
                            refine mv_aload_n d_Grouping_spread_182 rfl rfl ?_
                            refine tr_getK (k := 10) (K302 _ 7 10 _ (K293 _ 7 10 _ q284)) d_Grouping_spread_183 f_Grouping_31_7 ?_
                            refine mv_iload d_Grouping_spread_186 rfl ?_
                            refine mv_iload d_Grouping_spread_188 rfl ?_
                            refine tr_iastK tm_okF I301 t285 (by decide) (Or.inl (by decide)) d_Grouping_spread_190 (vp_in_iff.mpr (by omega)) (fun M303 I304 K305 => ?_)
                            refine mv_iinc (v := (i5_188 + 1)) (lv' := [(5, .int (i5_188 + 1)), (6, .int v193), (3, .long (if (v12 - v17) < v4 then v4 else (v12 - v17))), (0, .ref o0), (1, .int x1), (2, .int x2)]) d_Grouping_spread_191 rfl rfl (by decide) rfl ?_
                            refine mv_goto (tgt := 89) d_Grouping_spread_194 (by decide) ?_
                            refine mv_locals (lv' := [(5, .int (i5_188 + 1)), (3, .long (if (v12 - v17) < v4 then v4 else (v12 - v17))), (0, .ref o0), (1, .int x1), (2, .int x2)]) (by intro q hq; simp only [List.mem_cons, List.not_mem_nil, or_false] at hq; rcases hq with rfl | rfl | rfl | rfl | rfl <;> rfl) ?_
                            have b306 : (i5_188 + 1).toInt = i5_188.toInt + 1 := mz_addn 1 1 (by decide) (by have := mz_lo i5_188; omega) (by have := mz_hi i5_188; omega)
                            exact (ih188 (i5_188 + 1) T279 M303 n278 I304 t283 (by first | omega | decide) (by omega))
                exact mv_less (Nat.zero_le _) (Nat.zero_le _) (L89_188 4294967296 0 T8 M6 n7 I10 t13 (by first | omega | decide) (by show (2147483647 - (0 : Int) : Int) < _; decide))
              · refine mv_aload_n d_Grouping_spread_79 rfl rfl ?_
                refine mv_lload_n d_Grouping_spread_80 rfl rfl ?_
                refine mv_iload_n d_Grouping_spread_81 rfl rfl ?_
                obtain ⟨_, b313, -⟩ := I10.1 _ _ t13
                refine mv_callV (kc' := 0) (ks' := 0) (As := [.long (if (v12 - v17) < v4 then v4 else (v12 - v17)), .int x2]) (st9 := [.int x2, .long (if (v12 - v17) < v4 then v4 else (v12 - v17)), .ref o0]) d_Grouping_spread_82 lV_Grouping_80 b313 rfl (tc_Grouping_keepAsBest (d := (d + 5)) (x9 := x9) (o0 := o0) (x1 := (if (v12 - v17) < v4 then v4 else (v12 - v17))) (x2 := x2) t13 I10.start) rfl (Nat.le_of_ble_eq_true rfl) (Nat.le_of_ble_eq_true rfl) (Nat.le_of_ble_eq_true rfl) (hst := rfl) (fun b307r M308 n309 b307 => ?_)
                obtain ⟨T310, J311, rfl⟩ := b307
                have I312 := I10.call J311 (tm_sub (by decide)) (Or.inl rfl)
                have t314 := J311.up t13
                have q315 := J311.keep t13 (by decide) q14
                have q316 := J311.keep t13 (by decide) q15
                have t317 := J311.up t_a16
                have q318 := J311.keep t13 (by decide) q172
                exact mv_vret d_Grouping_spread_85 rfl ⟨_, I312, rfl⟩
          · refine mv_iload_n d_Grouping_spread_56 rfl rfl ?_
            refine mv_aload_n d_Grouping_spread_57 rfl rfl ?_
            refine tr_getK (k := 3) q18 d_Grouping_spread_58 f_Grouping_47_7 ?_
            have := mz_hi x2
            have := mz_hi v19
            refine mv_icmp_ltZ (tgt := 65) (a := x2.toInt) (b := v19.toInt) d_Grouping_spread_61 (by decide) rfl rfl (fun b319 => ?_) (fun b319 => ?_)
            · refine mv_iload_n d_Grouping_spread_65 rfl rfl ?_
              refine mv_aload_n d_Grouping_spread_66 rfl rfl ?_
              obtain ⟨v321, q320⟩ := tm_atI I10 t13 (k := 2) rfl
              refine tr_getK q320 d_Grouping_spread_67 f_Grouping_44_7 ?_
              have := mz_hi x1
              have := mz_hi v321
              refine mv_icmp_geZ (tgt := 79) (a := x1.toInt) (b := v321.toInt) d_Grouping_spread_70 (by decide) rfl rfl (fun b322 => ?_) (fun b322 => ?_)
              · refine mv_aload_n d_Grouping_spread_79 rfl rfl ?_
                refine mv_lload_n d_Grouping_spread_80 rfl rfl ?_
                refine mv_iload_n d_Grouping_spread_81 rfl rfl ?_
                obtain ⟨_, b329, -⟩ := I10.1 _ _ t13
                refine mv_callV (kc' := 0) (ks' := 0) (As := [.long (if (v12 - v17) < v4 then v4 else (v12 - v17)), .int x2]) (st9 := [.int x2, .long (if (v12 - v17) < v4 then v4 else (v12 - v17)), .ref o0]) d_Grouping_spread_82 lV_Grouping_80 b329 rfl (tc_Grouping_keepAsBest (d := (d + 5)) (x9 := x9) (o0 := o0) (x1 := (if (v12 - v17) < v4 then v4 else (v12 - v17))) (x2 := x2) t13 I10.start) rfl (Nat.le_of_ble_eq_true rfl) (Nat.le_of_ble_eq_true rfl) (Nat.le_of_ble_eq_true rfl) (hst := rfl) (fun b323r M324 n325 b323 => ?_)
                obtain ⟨T326, J327, rfl⟩ := b323
                have I328 := I10.call J327 (tm_sub (by decide)) (Or.inl rfl)
                have t330 := J327.up t13
                have q331 := J327.keep t13 (by decide) q14
                have q332 := J327.keep t13 (by decide) q15
                have t333 := J327.up t_a16
                have q334 := J327.keep t13 (by decide) q320
                exact mv_vret d_Grouping_spread_85 rfl ⟨_, I328, rfl⟩
              · refine mv_iload_n d_Grouping_spread_73 rfl rfl ?_
                refine mv_bipush (v := 8) d_Grouping_spread_74 (by decide) ?_
                have := mz_hi x1
                refine mv_icmp_neZ (tgt := 86) (a := x1.toInt) (b := 8) d_Grouping_spread_76 (by decide) rfl (by decide) (fun b335 => ?_) (fun b335 => ?_)
                · refine mv_iconst (v := 0) d_Grouping_spread_86 (by decide) ?_
                  refine mv_istore (lv' := [(5, .int 0), (3, .long (if (v12 - v17) < v4 then v4 else (v12 - v17))), (0, .ref o0), (1, .int x1), (2, .int x2)]) d_Grouping_spread_87 (by decide) rfl ?_
                  have L89_336 : ∀ (k : Nat) (i5_336 : Int32) (T_336 : tm_H) (M_336 : mj_M) (n_336 : Nat), tm_I tm_FT (tm_in w_Grouping_spread_q5) x9 T0 M0 n0 T_336 M_336 n_336 → T_336 o0 = some (0, 7, 0) → 0 ≤ i5_336.toInt → 2147483647 - i5_336.toInt < (k : Int) → mj_V g l kY_Grouping_spread (d + 6) 89 [(5, .int i5_336), (3, .long (if (v12 - v17) < v4 then v4 else (v12 - v17))), (0, .ref o0), (1, .int x1), (2, .int x2)] [] M_336 n_336 0 0 (tm_Q tm_FT (tm_in w_Grouping_spread_q5) x9 T0 M0 n0 (fun r _ _ => r = none)) := by
                    intro k336
                    induction k336 with
                    | zero =>
                      intro i5_336 T_336 M_336 n_336 I_336 h_q0_336 iv0_336 hk336
                      have := mz_hi i5_336
                      omega
                    | succ k336 ih336 =>
                      intro i5_336 T_336 M_336 n_336 I_336 h_q0_336 iv0_336 hk336
                      refine mv_iload d_Grouping_spread_89 rfl ?_
                      refine mv_iload_n d_Grouping_spread_91 rfl rfl ?_
                      have := mz_hi i5_336
                      have := mz_hi x2
                      refine mv_icmp_gtZ (tgt := 197) (a := i5_336.toInt) (b := x2.toInt) d_Grouping_spread_92 (by decide) rfl rfl (fun b337 => ?_) (fun b337 => ?_)
                      · exact mv_vret d_Grouping_spread_197 rfl ⟨_, I_336, rfl⟩
                      · refine mv_iload d_Grouping_spread_95 rfl ?_
                        refine mv_bipush (v := 8) d_Grouping_spread_97 (by decide) ?_
                        have := mz_hi i5_336
                        refine mv_icmp_geZ (tgt := 197) (a := i5_336.toInt) (b := 8) d_Grouping_spread_99 (by decide) rfl (by decide) (fun b338 => ?_) (fun b338 => ?_)
                        · exact mv_vret d_Grouping_spread_197 rfl ⟨_, I_336, rfl⟩
                        · refine mv_aload_n d_Grouping_spread_102 rfl rfl ?_
                          obtain ⟨a340, q339, t_a340⟩ := tm_atR I_336 h_q0_336 (k := 10) rfl
                          refine tr_getK q339 d_Grouping_spread_103 f_Grouping_31_7 ?_
                          refine mv_iload d_Grouping_spread_106 rfl ?_
                          refine tr_iald I_336 t_a340 (by decide) d_Grouping_spread_108 (vp_in_iff.mpr (by omega)) (fun v341 => ?_)
                          refine mv_istore (lv' := [(6, .int v341), (5, .int i5_336), (3, .long (if (v12 - v17) < v4 then v4 else (v12 - v17))), (0, .ref o0), (1, .int x1), (2, .int x2)]) d_Grouping_spread_109 (by decide) rfl ?_
                          refine mv_aload_n d_Grouping_spread_111 rfl rfl ?_
                          refine mv_iload_n d_Grouping_spread_112 rfl rfl ?_
                          refine mv_iload d_Grouping_spread_113 rfl ?_
                          obtain ⟨_, b348, -⟩ := I_336.1 _ _ h_q0_336
                          refine mv_callV (kc' := 0) (ks' := 0) (As := [.int x1, .int i5_336]) (st9 := [.int i5_336, .int x1, .ref o0]) d_Grouping_spread_115 lV_Grouping_56 b348 rfl (tc_Grouping_put (d := (d + 5)) (x9 := x9) (o0 := o0) (x1 := x1) (x2 := i5_336) h_q0_336 I_336.start) rfl (Nat.le_of_ble_eq_true rfl) (Nat.le_of_ble_eq_true rfl) (Nat.le_of_ble_eq_true rfl) (hst := rfl) (fun b342r M343 n344 b342 => ?_)
                          obtain ⟨T345, J346, rfl⟩ := b342
                          have I347 := I_336.call J346 (tm_sub (by decide)) (Or.inl rfl)
                          have t349 := J346.up h_q0_336
                          have q350 := J346.keep h_q0_336 (by decide) q339
                          have t351 := J346.up t_a340
                          refine mv_aload_n d_Grouping_spread_118 rfl rfl ?_
                          refine mv_iload d_Grouping_spread_119 rfl ?_
                          obtain ⟨_, b358, -⟩ := I347.1 _ _ t349
                          refine mv_callV (kc' := 0) (ks' := 0) (As := [.int i5_336]) (st9 := [.int i5_336, .ref o0]) d_Grouping_spread_121 lV_Grouping_60 b358 rfl (tc_Grouping_holdsTogether (d := (d + 4)) (x9 := x9) (o0 := o0) (x1 := i5_336) t349 I347.start) rfl (Nat.le_of_ble_eq_true rfl) (Nat.le_of_ble_eq_true rfl) (Nat.le_of_ble_eq_true rfl) (hst := rfl) (fun b352r M353 n354 b352 => ?_)
                          obtain ⟨T355, J356, v359, rfl, b360, b361⟩ := b352
                          have I357 := I347.call J356 (tm_sub (by decide)) (Or.inl rfl)
                          have t362 := J356.up t349
                          have q363 := J356.keep t349 (by decide) q350
                          have t364 := J356.up t351
                          have := mz_hi v359
                          refine mv_if_eqZ (tgt := 155) (a := v359.toInt) d_Grouping_spread_124 (by decide) rfl (fun b365 => ?_) (fun b365 => ?_)
                          · refine mv_aload_n d_Grouping_spread_155 rfl rfl ?_
                            obtain ⟨a367, q366, t_a367⟩ := tm_atR I357 t362 (k := 9) rfl
                            refine tr_getK q366 d_Grouping_spread_156 f_Grouping_28_7 ?_
                            refine mv_iload d_Grouping_spread_159 rfl ?_
                            refine mv_dup2_11 d_Grouping_spread_161 rfl rfl ?_
                            refine tr_iald I357 t_a367 (by decide) d_Grouping_spread_162 (vp_in_iff.mpr (by omega)) (fun v368 => ?_)
                            refine mv_iconst (v := 1) d_Grouping_spread_163 (by decide) ?_
                            refine mv_isub d_Grouping_spread_164 ?_
                            refine tr_iastK tm_okF I357 t_a367 (by decide) (Or.inl (by decide)) d_Grouping_spread_165 (vp_in_iff.mpr (by omega)) (fun M369 I370 K371 => ?_)
                            refine mv_aload_n d_Grouping_spread_166 rfl rfl ?_
                            obtain ⟨a373, q372, t_a373⟩ := tm_atR I370 t362 (k := 11) rfl
                            refine tr_getK q372 d_Grouping_spread_167 f_Grouping_34_7 ?_
                            refine mv_iload d_Grouping_spread_170 rfl ?_
                            refine mv_dup2_11 d_Grouping_spread_172 rfl rfl ?_
                            refine tr_lald I370 t_a373 (by decide) d_Grouping_spread_173 (vp_in_iff.mpr (by omega)) (fun v374 => ?_)
                            refine mv_aload_n d_Grouping_spread_174 rfl rfl ?_
                            obtain ⟨a376, q375, t_a376⟩ := tm_atR I370 t362 (k := 5) rfl
                            refine tr_getK q375 d_Grouping_spread_175 f_Grouping_15_7 ?_
                            refine mv_iload_n d_Grouping_spread_178 rfl rfl ?_
                            refine tr_lald I370 t_a376 (by decide) d_Grouping_spread_179 (vp_in_iff.mpr (by omega)) (fun v377 => ?_)
                            refine mv_lsub d_Grouping_spread_180 ?_
                            refine tr_lastK tm_okF I370 t_a373 (by decide) (Or.inl (by decide)) d_Grouping_spread_181 (vp_in_iff.mpr (by omega)) (fun M378 I379 K380 => ?_)
                            refine mv_aload_n d_Grouping_spread_182 rfl rfl ?_
                            refine tr_getK (k := 10) (K380 _ 7 10 _ (K371 _ 7 10 _ q363)) d_Grouping_spread_183 f_Grouping_31_7 ?_
                            refine mv_iload d_Grouping_spread_186 rfl ?_
                            refine mv_iload d_Grouping_spread_188 rfl ?_
                            refine tr_iastK tm_okF I379 t364 (by decide) (Or.inl (by decide)) d_Grouping_spread_190 (vp_in_iff.mpr (by omega)) (fun M381 I382 K383 => ?_)
                            refine mv_iinc (v := (i5_336 + 1)) (lv' := [(5, .int (i5_336 + 1)), (6, .int v341), (3, .long (if (v12 - v17) < v4 then v4 else (v12 - v17))), (0, .ref o0), (1, .int x1), (2, .int x2)]) d_Grouping_spread_191 rfl rfl (by decide) rfl ?_
                            refine mv_goto (tgt := 89) d_Grouping_spread_194 (by decide) ?_
                            refine mv_locals (lv' := [(5, .int (i5_336 + 1)), (3, .long (if (v12 - v17) < v4 then v4 else (v12 - v17))), (0, .ref o0), (1, .int x1), (2, .int x2)]) (by intro q hq; simp only [List.mem_cons, List.not_mem_nil, or_false] at hq; rcases hq with rfl | rfl | rfl | rfl | rfl <;> rfl) ?_
                            have b384 : (i5_336 + 1).toInt = i5_336.toInt + 1 := mz_addn 1 1 (by decide) (by have := mz_lo i5_336; omega) (by have := mz_hi i5_336; omega)
                            exact (ih336 (i5_336 + 1) T355 M381 n354 I382 t362 (by first | omega | decide) (by omega))
                          · refine mv_aload_n d_Grouping_spread_127 rfl rfl ?_
                            obtain ⟨a386, q385, t_a386⟩ := tm_atR I357 t362 (k := 7) rfl
                            refine tr_getK q385 d_Grouping_spread_128 f_Grouping_22_7 ?_
                            refine mv_iload_n d_Grouping_spread_131 rfl rfl ?_
                            refine mv_iload d_Grouping_spread_132 rfl ?_
                            refine tr_iastK tm_okF I357 t_a386 (by decide) (Or.inl (by decide)) d_Grouping_spread_134 (vp_in_iff.mpr (by omega)) (fun M387 I388 K389 => ?_)
                            refine mv_aload_n d_Grouping_spread_135 rfl rfl ?_
                            refine mv_iload_n d_Grouping_spread_136 rfl rfl ?_
                            refine mv_iconst (v := 1) d_Grouping_spread_137 (by decide) ?_
                            refine mv_iadd d_Grouping_spread_138 ?_
                            refine mv_iload d_Grouping_spread_139 rfl ?_
                            refine mv_iload_n d_Grouping_spread_141 rfl rfl ?_
                            have := mz_hi i5_336
                            have := mz_hi x2
                            refine mv_icmp_neZ (tgt := 151) (a := i5_336.toInt) (b := x2.toInt) d_Grouping_spread_142 (by decide) rfl rfl (fun b390 => ?_) (fun b390 => ?_)
                            · refine mv_iload_n d_Grouping_spread_151 rfl rfl ?_
                              have b391 : (x1 + 1).toInt = x1.toInt + 1 := mz_addn 1 1 (by decide) (by omega) (by omega)
                              obtain ⟨_, b398, -⟩ := I388.1 _ _ t362
                              refine mv_callV (kc' := 0) (ks' := 0) (As := [.int (x1 + 1), .int x2]) (st9 := [.int x2, .int (x1 + 1), .ref o0]) d_Grouping_spread_152 lV_Grouping_77 b398 rfl (tc_Grouping_spread_q4 (d := d) (x9 := x9) (o0 := o0) (x1 := (x1 + 1)) (x2 := x2) t362 (by first | omega | decide) I388.start) rfl (Nat.le_of_ble_eq_true rfl) (Nat.le_of_ble_eq_true rfl) (Nat.le_of_ble_eq_true rfl) (hst := rfl) (fun b392r M393 n394 b392 => ?_)
                              obtain ⟨T395, J396, rfl⟩ := b392
                              have I397 := I388.call J396 (tm_sub (by decide)) (Or.inl rfl)
                              have t399 := J396.up t362
                              have q400 := J396.keep t362 (by decide) (K389 _ 7 10 _ q363)
                              have t401 := J396.up t364
                              have q402 := J396.keep t362 (by decide) (K389 _ 7 7 _ q385)
                              have t403 := J396.up t_a386
                              refine mv_aload_n d_Grouping_spread_155 rfl rfl ?_
                              obtain ⟨a405, q404, t_a405⟩ := tm_atR I397 t399 (k := 9) rfl
                              refine tr_getK q404 d_Grouping_spread_156 f_Grouping_28_7 ?_
                              refine mv_iload d_Grouping_spread_159 rfl ?_
                              refine mv_dup2_11 d_Grouping_spread_161 rfl rfl ?_
                              refine tr_iald I397 t_a405 (by decide) d_Grouping_spread_162 (vp_in_iff.mpr (by omega)) (fun v406 => ?_)
                              refine mv_iconst (v := 1) d_Grouping_spread_163 (by decide) ?_
                              refine mv_isub d_Grouping_spread_164 ?_
                              refine tr_iastK tm_okF I397 t_a405 (by decide) (Or.inl (by decide)) d_Grouping_spread_165 (vp_in_iff.mpr (by omega)) (fun M407 I408 K409 => ?_)
                              refine mv_aload_n d_Grouping_spread_166 rfl rfl ?_
                              obtain ⟨a411, q410, t_a411⟩ := tm_atR I408 t399 (k := 11) rfl
                              refine tr_getK q410 d_Grouping_spread_167 f_Grouping_34_7 ?_
                              refine mv_iload d_Grouping_spread_170 rfl ?_
                              refine mv_dup2_11 d_Grouping_spread_172 rfl rfl ?_
                              refine tr_lald I408 t_a411 (by decide) d_Grouping_spread_173 (vp_in_iff.mpr (by omega)) (fun v412 => ?_)
                              refine mv_aload_n d_Grouping_spread_174 rfl rfl ?_
                              obtain ⟨a414, q413, t_a414⟩ := tm_atR I408 t399 (k := 5) rfl
                              refine tr_getK q413 d_Grouping_spread_175 f_Grouping_15_7 ?_
                              refine mv_iload_n d_Grouping_spread_178 rfl rfl ?_
                              refine tr_lald I408 t_a414 (by decide) d_Grouping_spread_179 (vp_in_iff.mpr (by omega)) (fun v415 => ?_)
                              refine mv_lsub d_Grouping_spread_180 ?_
                              refine tr_lastK tm_okF I408 t_a411 (by decide) (Or.inl (by decide)) d_Grouping_spread_181 (vp_in_iff.mpr (by omega)) (fun M416 I417 K418 => ?_)
                              refine mv_aload_n d_Grouping_spread_182 rfl rfl ?_
                              refine tr_getK (k := 10) (K418 _ 7 10 _ (K409 _ 7 10 _ q400)) d_Grouping_spread_183 f_Grouping_31_7 ?_
                              refine mv_iload d_Grouping_spread_186 rfl ?_
                              refine mv_iload d_Grouping_spread_188 rfl ?_
                              refine tr_iastK tm_okF I417 t401 (by decide) (Or.inl (by decide)) d_Grouping_spread_190 (vp_in_iff.mpr (by omega)) (fun M419 I420 K421 => ?_)
                              refine mv_iinc (v := (i5_336 + 1)) (lv' := [(5, .int (i5_336 + 1)), (6, .int v341), (3, .long (if (v12 - v17) < v4 then v4 else (v12 - v17))), (0, .ref o0), (1, .int x1), (2, .int x2)]) d_Grouping_spread_191 rfl rfl (by decide) rfl ?_
                              refine mv_goto (tgt := 89) d_Grouping_spread_194 (by decide) ?_
                              refine mv_locals (lv' := [(5, .int (i5_336 + 1)), (3, .long (if (v12 - v17) < v4 then v4 else (v12 - v17))), (0, .ref o0), (1, .int x1), (2, .int x2)]) (by intro q hq; simp only [List.mem_cons, List.not_mem_nil, or_false] at hq; rcases hq with rfl | rfl | rfl | rfl | rfl <;> rfl) ?_
                              have b422 : (i5_336 + 1).toInt = i5_336.toInt + 1 := mz_addn 1 1 (by decide) (by have := mz_lo i5_336; omega) (by have := mz_hi i5_336; omega)
                              exact (ih336 (i5_336 + 1) T395 M419 n394 I420 t399 (by first | omega | decide) (by omega))
                            · refine mv_iload_n d_Grouping_spread_145 rfl rfl ?_
                              refine mv_iconst (v := 1) d_Grouping_spread_146 (by decide) ?_
                              refine mv_iadd d_Grouping_spread_147 ?_
                              refine mv_goto (tgt := 152) d_Grouping_spread_148 (by decide) ?_
                              have b423 : (x1 + 1).toInt = x1.toInt + 1 := mz_addn 1 1 (by decide) (by omega) (by omega)
                              obtain ⟨_, b430, -⟩ := I388.1 _ _ t362
                              refine mv_callV (kc' := 0) (ks' := 0) (As := [.int (x1 + 1), .int (x2 + 1)]) (st9 := [.int (x2 + 1), .int (x1 + 1), .ref o0]) d_Grouping_spread_152 lV_Grouping_77 b430 rfl (tc_Grouping_spread_q4 (d := d) (x9 := x9) (o0 := o0) (x1 := (x1 + 1)) (x2 := (x2 + 1)) t362 (by first | omega | decide) I388.start) rfl (Nat.le_of_ble_eq_true rfl) (Nat.le_of_ble_eq_true rfl) (Nat.le_of_ble_eq_true rfl) (hst := rfl) (fun b424r M425 n426 b424 => ?_)
                              obtain ⟨T427, J428, rfl⟩ := b424
                              have I429 := I388.call J428 (tm_sub (by decide)) (Or.inl rfl)
                              have t431 := J428.up t362
                              have q432 := J428.keep t362 (by decide) (K389 _ 7 10 _ q363)
                              have t433 := J428.up t364
                              have q434 := J428.keep t362 (by decide) (K389 _ 7 7 _ q385)
                              have t435 := J428.up t_a386
                              refine mv_aload_n d_Grouping_spread_155 rfl rfl ?_
                              obtain ⟨a437, q436, t_a437⟩ := tm_atR I429 t431 (k := 9) rfl
                              refine tr_getK q436 d_Grouping_spread_156 f_Grouping_28_7 ?_
                              refine mv_iload d_Grouping_spread_159 rfl ?_
                              refine mv_dup2_11 d_Grouping_spread_161 rfl rfl ?_
                              refine tr_iald I429 t_a437 (by decide) d_Grouping_spread_162 (vp_in_iff.mpr (by omega)) (fun v438 => ?_)
                              refine mv_iconst (v := 1) d_Grouping_spread_163 (by decide) ?_
                              refine mv_isub d_Grouping_spread_164 ?_
                              refine tr_iastK tm_okF I429 t_a437 (by decide) (Or.inl (by decide)) d_Grouping_spread_165 (vp_in_iff.mpr (by omega)) (fun M439 I440 K441 => ?_)
                              refine mv_aload_n d_Grouping_spread_166 rfl rfl ?_
                              obtain ⟨a443, q442, t_a443⟩ := tm_atR I440 t431 (k := 11) rfl
                              refine tr_getK q442 d_Grouping_spread_167 f_Grouping_34_7 ?_
                              refine mv_iload d_Grouping_spread_170 rfl ?_
                              refine mv_dup2_11 d_Grouping_spread_172 rfl rfl ?_
                              refine tr_lald I440 t_a443 (by decide) d_Grouping_spread_173 (vp_in_iff.mpr (by omega)) (fun v444 => ?_)
                              refine mv_aload_n d_Grouping_spread_174 rfl rfl ?_
                              obtain ⟨a446, q445, t_a446⟩ := tm_atR I440 t431 (k := 5) rfl
                              refine tr_getK q445 d_Grouping_spread_175 f_Grouping_15_7 ?_
                              refine mv_iload_n d_Grouping_spread_178 rfl rfl ?_
                              refine tr_lald I440 t_a446 (by decide) d_Grouping_spread_179 (vp_in_iff.mpr (by omega)) (fun v447 => ?_)
                              refine mv_lsub d_Grouping_spread_180 ?_
                              refine tr_lastK tm_okF I440 t_a443 (by decide) (Or.inl (by decide)) d_Grouping_spread_181 (vp_in_iff.mpr (by omega)) (fun M448 I449 K450 => ?_)
                              refine mv_aload_n d_Grouping_spread_182 rfl rfl ?_
                              refine tr_getK (k := 10) (K450 _ 7 10 _ (K441 _ 7 10 _ q432)) d_Grouping_spread_183 f_Grouping_31_7 ?_
                              refine mv_iload d_Grouping_spread_186 rfl ?_
                              refine mv_iload d_Grouping_spread_188 rfl ?_
                              refine tr_iastK tm_okF I449 t433 (by decide) (Or.inl (by decide)) d_Grouping_spread_190 (vp_in_iff.mpr (by omega)) (fun M451 I452 K453 => ?_)
                              refine mv_iinc (v := (i5_336 + 1)) (lv' := [(5, .int (i5_336 + 1)), (6, .int v341), (3, .long (if (v12 - v17) < v4 then v4 else (v12 - v17))), (0, .ref o0), (1, .int x1), (2, .int x2)]) d_Grouping_spread_191 rfl rfl (by decide) rfl ?_
                              refine mv_goto (tgt := 89) d_Grouping_spread_194 (by decide) ?_
                              refine mv_locals (lv' := [(5, .int (i5_336 + 1)), (3, .long (if (v12 - v17) < v4 then v4 else (v12 - v17))), (0, .ref o0), (1, .int x1), (2, .int x2)]) (by intro q hq; simp only [List.mem_cons, List.not_mem_nil, or_false] at hq; rcases hq with rfl | rfl | rfl | rfl | rfl <;> rfl) ?_
                              have b454 : (i5_336 + 1).toInt = i5_336.toInt + 1 := mz_addn 1 1 (by decide) (by have := mz_lo i5_336; omega) (by have := mz_hi i5_336; omega)
                              exact (ih336 (i5_336 + 1) T427 M451 n426 I452 t431 (by first | omega | decide) (by omega))
                  exact mv_less (Nat.zero_le _) (Nat.zero_le _) (L89_336 4294967296 0 T8 M6 n7 I10 t13 (by first | omega | decide) (by show (2147483647 - (0 : Int) : Int) < _; decide))
                · refine mv_aload_n d_Grouping_spread_79 rfl rfl ?_
                  refine mv_lload_n d_Grouping_spread_80 rfl rfl ?_
                  refine mv_iload_n d_Grouping_spread_81 rfl rfl ?_
                  obtain ⟨_, b461, -⟩ := I10.1 _ _ t13
                  refine mv_callV (kc' := 0) (ks' := 0) (As := [.long (if (v12 - v17) < v4 then v4 else (v12 - v17)), .int x2]) (st9 := [.int x2, .long (if (v12 - v17) < v4 then v4 else (v12 - v17)), .ref o0]) d_Grouping_spread_82 lV_Grouping_80 b461 rfl (tc_Grouping_keepAsBest (d := (d + 5)) (x9 := x9) (o0 := o0) (x1 := (if (v12 - v17) < v4 then v4 else (v12 - v17))) (x2 := x2) t13 I10.start) rfl (Nat.le_of_ble_eq_true rfl) (Nat.le_of_ble_eq_true rfl) (Nat.le_of_ble_eq_true rfl) (hst := rfl) (fun b455r M456 n457 b455 => ?_)
                  obtain ⟨T458, J459, rfl⟩ := b455
                  have I460 := I10.call J459 (tm_sub (by decide)) (Or.inl rfl)
                  have t462 := J459.up t13
                  have q463 := J459.keep t13 (by decide) q14
                  have q464 := J459.keep t13 (by decide) q15
                  have t465 := J459.up t_a16
                  have q466 := J459.keep t13 (by decide) q320
                  exact mv_vret d_Grouping_spread_85 rfl ⟨_, I460, rfl⟩
            · exact mv_vret d_Grouping_spread_64 rfl ⟨_, I10, rfl⟩
    · exact mv_vret d_Grouping_spread_10 rfl ⟨_, I0, rfl⟩
def w_Grouping_spread_q6 : List Nat := [700, 703, 757, 758, 759, 760, 761]
theorem tc_Grouping_spread_q6 {g : mj_G} {l : Launch} {d : Nat} {T0 : tm_H} {M0 : mj_M} {n0 x9 : Nat} {o0 : Nat} {x1 : Int32} {x2 : Int32} (h_o0 : T0 o0 = some (0, 7, 0)) (hp : 3 ≤ x1.toInt) (I0 : tm_I tm_FT (tm_in w_Grouping_spread_q6) x9 T0 M0 n0 T0 M0 n0) : mj_Met g l kY_Grouping_spread (d + 7) [.ref o0, .int x1, .int x2] M0 n0 0 0 (tm_Q tm_FT (tm_in w_Grouping_spread_q6) x9 T0 M0 n0 (fun r _ _ => r = none)) := by
  refine mj_enter (by decide) (Nat.le_of_ble_eq_true rfl) ?_
  refine mv_iload_n d_Grouping_spread_0 rfl rfl ?_
  have := mz_hi x1
  refine mv_if_ltZ (tgt := 10) (a := x1.toInt) d_Grouping_spread_1 (by decide) rfl (fun b1 => ?_) (fun b1 => ?_)
  · exact mv_vret d_Grouping_spread_10 rfl ⟨_, I0, rfl⟩
  · refine mv_iload_n d_Grouping_spread_4 rfl rfl ?_
    refine mv_bipush (v := 8) d_Grouping_spread_5 (by decide) ?_
    have := mz_hi x1
    refine mv_icmp_leZ (tgt := 11) (a := x1.toInt) (b := 8) d_Grouping_spread_7 (by decide) rfl (by decide) (fun b2 => ?_) (fun b2 => ?_)
    · refine mv_aload_n d_Grouping_spread_11 rfl rfl ?_
      obtain ⟨v4, q3⟩ := tm_atL I0 h_o0 (k := 13) rfl
      refine tr_getK q3 d_Grouping_spread_12 f_Grouping_74_7 ?_
      refine mv_aload_n d_Grouping_spread_15 rfl rfl ?_
      refine mv_iload_n d_Grouping_spread_16 rfl rfl ?_
      obtain ⟨_, b11, -⟩ := I0.1 _ _ h_o0
      refine mv_callV (kc' := 0) (ks' := 0) (As := [.int x2]) (st9 := [.int x2, .ref o0, .long v4]) d_Grouping_spread_17 lV_Grouping_64 b11 rfl (tc_Grouping_idleOf (d := (d + 5)) (x9 := x9) (o0 := o0) (x1 := x2) h_o0 I0.start) rfl (Nat.le_of_ble_eq_true rfl) (Nat.le_of_ble_eq_true rfl) (Nat.le_of_ble_eq_true rfl) (hst := rfl) (fun b5r M6 n7 b5 => ?_)
      obtain ⟨T8, J9, v12, rfl⟩ := b5
      have I10 := I0.call J9 (tm_sub (by decide)) (Or.inl rfl)
      have t13 := J9.up h_o0
      have q14 := J9.keep h_o0 (by decide) q3
      refine mv_aload_n d_Grouping_spread_20 rfl rfl ?_
      obtain ⟨a16, q15, t_a16⟩ := tm_atR I10 t13 (k := 12) rfl
      refine tr_getK q15 d_Grouping_spread_21 f_Grouping_37_7 ?_
      refine mv_iload_n d_Grouping_spread_24 rfl rfl ?_
      refine tr_lald I10 t_a16 (by decide) d_Grouping_spread_25 (vp_in_iff.mpr (by omega)) (fun v17 => ?_)
      refine mv_lsub d_Grouping_spread_26 ?_
      refine mv_mmax_long (v := (if (v12 - v17) < v4 then v4 else (v12 - v17))) d_Grouping_spread_27 (mj_in1 (List.mem_of_getElem? (i := 1243) (by decide +kernel)) rfl) (Nat.le_of_ble_eq_true rfl) rfl ?_
      refine mv_lstore_n (lv' := [(3, .long (if (v12 - v17) < v4 then v4 else (v12 - v17))), (0, .ref o0), (1, .int x1), (2, .int x2)]) d_Grouping_spread_30 rfl (by decide) rfl ?_
      refine mv_aload_n d_Grouping_spread_31 rfl rfl ?_
      obtain ⟨v19, q18⟩ := tm_atI I10 t13 (k := 3) rfl
      refine tr_getK q18 d_Grouping_spread_32 f_Grouping_47_7 ?_
      have := mz_hi v19
      refine mv_if_eqZ (tgt := 65) (a := v19.toInt) d_Grouping_spread_35 (by decide) rfl (fun b20 => ?_) (fun b20 => ?_)
      · refine mv_iload_n d_Grouping_spread_65 rfl rfl ?_
        refine mv_aload_n d_Grouping_spread_66 rfl rfl ?_
        obtain ⟨v22, q21⟩ := tm_atI I10 t13 (k := 2) rfl
        refine tr_getK q21 d_Grouping_spread_67 f_Grouping_44_7 ?_
        have := mz_hi x1
        have := mz_hi v22
        refine mv_icmp_geZ (tgt := 79) (a := x1.toInt) (b := v22.toInt) d_Grouping_spread_70 (by decide) rfl rfl (fun b23 => ?_) (fun b23 => ?_)
        · refine mv_aload_n d_Grouping_spread_79 rfl rfl ?_
          refine mv_lload_n d_Grouping_spread_80 rfl rfl ?_
          refine mv_iload_n d_Grouping_spread_81 rfl rfl ?_
          obtain ⟨_, b30, -⟩ := I10.1 _ _ t13
          refine mv_callV (kc' := 0) (ks' := 0) (As := [.long (if (v12 - v17) < v4 then v4 else (v12 - v17)), .int x2]) (st9 := [.int x2, .long (if (v12 - v17) < v4 then v4 else (v12 - v17)), .ref o0]) d_Grouping_spread_82 lV_Grouping_80 b30 rfl (tc_Grouping_keepAsBest (d := (d + 6)) (x9 := x9) (o0 := o0) (x1 := (if (v12 - v17) < v4 then v4 else (v12 - v17))) (x2 := x2) t13 I10.start) rfl (Nat.le_of_ble_eq_true rfl) (Nat.le_of_ble_eq_true rfl) (Nat.le_of_ble_eq_true rfl) (hst := rfl) (fun b24r M25 n26 b24 => ?_)
          obtain ⟨T27, J28, rfl⟩ := b24
          have I29 := I10.call J28 (tm_sub (by decide)) (Or.inl rfl)
          have t31 := J28.up t13
          have q32 := J28.keep t13 (by decide) q14
          have q33 := J28.keep t13 (by decide) q15
          have t34 := J28.up t_a16
          have q35 := J28.keep t13 (by decide) q21
          exact mv_vret d_Grouping_spread_85 rfl ⟨_, I29, rfl⟩
        · refine mv_iload_n d_Grouping_spread_73 rfl rfl ?_
          refine mv_bipush (v := 8) d_Grouping_spread_74 (by decide) ?_
          have := mz_hi x1
          refine mv_icmp_neZ (tgt := 86) (a := x1.toInt) (b := 8) d_Grouping_spread_76 (by decide) rfl (by decide) (fun b36 => ?_) (fun b36 => ?_)
          · refine mv_iconst (v := 0) d_Grouping_spread_86 (by decide) ?_
            refine mv_istore (lv' := [(5, .int 0), (3, .long (if (v12 - v17) < v4 then v4 else (v12 - v17))), (0, .ref o0), (1, .int x1), (2, .int x2)]) d_Grouping_spread_87 (by decide) rfl ?_
            have L89_37 : ∀ (k : Nat) (i5_37 : Int32) (T_37 : tm_H) (M_37 : mj_M) (n_37 : Nat), tm_I tm_FT (tm_in w_Grouping_spread_q6) x9 T0 M0 n0 T_37 M_37 n_37 → T_37 o0 = some (0, 7, 0) → 0 ≤ i5_37.toInt → 2147483647 - i5_37.toInt < (k : Int) → mj_V g l kY_Grouping_spread (d + 7) 89 [(5, .int i5_37), (3, .long (if (v12 - v17) < v4 then v4 else (v12 - v17))), (0, .ref o0), (1, .int x1), (2, .int x2)] [] M_37 n_37 0 0 (tm_Q tm_FT (tm_in w_Grouping_spread_q6) x9 T0 M0 n0 (fun r _ _ => r = none)) := by
              intro k37
              induction k37 with
              | zero =>
                intro i5_37 T_37 M_37 n_37 I_37 h_q0_37 iv0_37 hk37
                have := mz_hi i5_37
                omega
              | succ k37 ih37 =>
                intro i5_37 T_37 M_37 n_37 I_37 h_q0_37 iv0_37 hk37
                refine mv_iload d_Grouping_spread_89 rfl ?_
                refine mv_iload_n d_Grouping_spread_91 rfl rfl ?_
                have := mz_hi i5_37
                have := mz_hi x2
                refine mv_icmp_gtZ (tgt := 197) (a := i5_37.toInt) (b := x2.toInt) d_Grouping_spread_92 (by decide) rfl rfl (fun b38 => ?_) (fun b38 => ?_)
                · exact mv_vret d_Grouping_spread_197 rfl ⟨_, I_37, rfl⟩
                · refine mv_iload d_Grouping_spread_95 rfl ?_
                  refine mv_bipush (v := 8) d_Grouping_spread_97 (by decide) ?_
                  have := mz_hi i5_37
                  refine mv_icmp_geZ (tgt := 197) (a := i5_37.toInt) (b := 8) d_Grouping_spread_99 (by decide) rfl (by decide) (fun b39 => ?_) (fun b39 => ?_)
                  · exact mv_vret d_Grouping_spread_197 rfl ⟨_, I_37, rfl⟩
                  · refine mv_aload_n d_Grouping_spread_102 rfl rfl ?_
                    obtain ⟨a41, q40, t_a41⟩ := tm_atR I_37 h_q0_37 (k := 10) rfl
                    refine tr_getK q40 d_Grouping_spread_103 f_Grouping_31_7 ?_
                    refine mv_iload d_Grouping_spread_106 rfl ?_
                    refine tr_iald I_37 t_a41 (by decide) d_Grouping_spread_108 (vp_in_iff.mpr (by omega)) (fun v42 => ?_)
                    refine mv_istore (lv' := [(6, .int v42), (5, .int i5_37), (3, .long (if (v12 - v17) < v4 then v4 else (v12 - v17))), (0, .ref o0), (1, .int x1), (2, .int x2)]) d_Grouping_spread_109 (by decide) rfl ?_
                    refine mv_aload_n d_Grouping_spread_111 rfl rfl ?_
                    refine mv_iload_n d_Grouping_spread_112 rfl rfl ?_
                    refine mv_iload d_Grouping_spread_113 rfl ?_
                    obtain ⟨_, b49, -⟩ := I_37.1 _ _ h_q0_37
                    refine mv_callV (kc' := 0) (ks' := 0) (As := [.int x1, .int i5_37]) (st9 := [.int i5_37, .int x1, .ref o0]) d_Grouping_spread_115 lV_Grouping_56 b49 rfl (tc_Grouping_put (d := (d + 6)) (x9 := x9) (o0 := o0) (x1 := x1) (x2 := i5_37) h_q0_37 I_37.start) rfl (Nat.le_of_ble_eq_true rfl) (Nat.le_of_ble_eq_true rfl) (Nat.le_of_ble_eq_true rfl) (hst := rfl) (fun b43r M44 n45 b43 => ?_)
                    obtain ⟨T46, J47, rfl⟩ := b43
                    have I48 := I_37.call J47 (tm_sub (by decide)) (Or.inl rfl)
                    have t50 := J47.up h_q0_37
                    have q51 := J47.keep h_q0_37 (by decide) q40
                    have t52 := J47.up t_a41
                    refine mv_aload_n d_Grouping_spread_118 rfl rfl ?_
                    refine mv_iload d_Grouping_spread_119 rfl ?_
                    obtain ⟨_, b59, -⟩ := I48.1 _ _ t50
                    refine mv_callV (kc' := 0) (ks' := 0) (As := [.int i5_37]) (st9 := [.int i5_37, .ref o0]) d_Grouping_spread_121 lV_Grouping_60 b59 rfl (tc_Grouping_holdsTogether (d := (d + 5)) (x9 := x9) (o0 := o0) (x1 := i5_37) t50 I48.start) rfl (Nat.le_of_ble_eq_true rfl) (Nat.le_of_ble_eq_true rfl) (Nat.le_of_ble_eq_true rfl) (hst := rfl) (fun b53r M54 n55 b53 => ?_)
                    obtain ⟨T56, J57, v60, rfl, b61, b62⟩ := b53
                    have I58 := I48.call J57 (tm_sub (by decide)) (Or.inl rfl)
                    have t63 := J57.up t50
                    have q64 := J57.keep t50 (by decide) q51
                    have t65 := J57.up t52
                    have := mz_hi v60
                    refine mv_if_eqZ (tgt := 155) (a := v60.toInt) d_Grouping_spread_124 (by decide) rfl (fun b66 => ?_) (fun b66 => ?_)
                    · refine mv_aload_n d_Grouping_spread_155 rfl rfl ?_
                      obtain ⟨a68, q67, t_a68⟩ := tm_atR I58 t63 (k := 9) rfl
                      refine tr_getK q67 d_Grouping_spread_156 f_Grouping_28_7 ?_
                      refine mv_iload d_Grouping_spread_159 rfl ?_
                      refine mv_dup2_11 d_Grouping_spread_161 rfl rfl ?_
                      refine tr_iald I58 t_a68 (by decide) d_Grouping_spread_162 (vp_in_iff.mpr (by omega)) (fun v69 => ?_)
                      refine mv_iconst (v := 1) d_Grouping_spread_163 (by decide) ?_
                      refine mv_isub d_Grouping_spread_164 ?_
                      refine tr_iastK tm_okF I58 t_a68 (by decide) (Or.inl (by decide)) d_Grouping_spread_165 (vp_in_iff.mpr (by omega)) (fun M70 I71 K72 => ?_)
                      refine mv_aload_n d_Grouping_spread_166 rfl rfl ?_
                      obtain ⟨a74, q73, t_a74⟩ := tm_atR I71 t63 (k := 11) rfl
                      refine tr_getK q73 d_Grouping_spread_167 f_Grouping_34_7 ?_
                      refine mv_iload d_Grouping_spread_170 rfl ?_
                      refine mv_dup2_11 d_Grouping_spread_172 rfl rfl ?_
                      refine tr_lald I71 t_a74 (by decide) d_Grouping_spread_173 (vp_in_iff.mpr (by omega)) (fun v75 => ?_)
                      refine mv_aload_n d_Grouping_spread_174 rfl rfl ?_
                      obtain ⟨a77, q76, t_a77⟩ := tm_atR I71 t63 (k := 5) rfl
                      refine tr_getK q76 d_Grouping_spread_175 f_Grouping_15_7 ?_
                      refine mv_iload_n d_Grouping_spread_178 rfl rfl ?_
                      refine tr_lald I71 t_a77 (by decide) d_Grouping_spread_179 (vp_in_iff.mpr (by omega)) (fun v78 => ?_)
                      refine mv_lsub d_Grouping_spread_180 ?_
                      refine tr_lastK tm_okF I71 t_a74 (by decide) (Or.inl (by decide)) d_Grouping_spread_181 (vp_in_iff.mpr (by omega)) (fun M79 I80 K81 => ?_)
                      refine mv_aload_n d_Grouping_spread_182 rfl rfl ?_
                      refine tr_getK (k := 10) (K81 _ 7 10 _ (K72 _ 7 10 _ q64)) d_Grouping_spread_183 f_Grouping_31_7 ?_
                      refine mv_iload d_Grouping_spread_186 rfl ?_
                      refine mv_iload d_Grouping_spread_188 rfl ?_
                      refine tr_iastK tm_okF I80 t65 (by decide) (Or.inl (by decide)) d_Grouping_spread_190 (vp_in_iff.mpr (by omega)) (fun M82 I83 K84 => ?_)
                      refine mv_iinc (v := (i5_37 + 1)) (lv' := [(5, .int (i5_37 + 1)), (6, .int v42), (3, .long (if (v12 - v17) < v4 then v4 else (v12 - v17))), (0, .ref o0), (1, .int x1), (2, .int x2)]) d_Grouping_spread_191 rfl rfl (by decide) rfl ?_
                      refine mv_goto (tgt := 89) d_Grouping_spread_194 (by decide) ?_
                      refine mv_locals (lv' := [(5, .int (i5_37 + 1)), (3, .long (if (v12 - v17) < v4 then v4 else (v12 - v17))), (0, .ref o0), (1, .int x1), (2, .int x2)]) (by intro q hq; simp only [List.mem_cons, List.not_mem_nil, or_false] at hq; rcases hq with rfl | rfl | rfl | rfl | rfl <;> rfl) ?_
                      have b85 : (i5_37 + 1).toInt = i5_37.toInt + 1 := mz_addn 1 1 (by decide) (by have := mz_lo i5_37; omega) (by have := mz_hi i5_37; omega)
                      exact (ih37 (i5_37 + 1) T56 M82 n55 I83 t63 (by first | omega | decide) (by omega))
                    · refine mv_aload_n d_Grouping_spread_127 rfl rfl ?_
                      obtain ⟨a87, q86, t_a87⟩ := tm_atR I58 t63 (k := 7) rfl
                      refine tr_getK q86 d_Grouping_spread_128 f_Grouping_22_7 ?_
                      refine mv_iload_n d_Grouping_spread_131 rfl rfl ?_
                      refine mv_iload d_Grouping_spread_132 rfl ?_
                      refine tr_iastK tm_okF I58 t_a87 (by decide) (Or.inl (by decide)) d_Grouping_spread_134 (vp_in_iff.mpr (by omega)) (fun M88 I89 K90 => ?_)
                      refine mv_aload_n d_Grouping_spread_135 rfl rfl ?_
                      refine mv_iload_n d_Grouping_spread_136 rfl rfl ?_
                      refine mv_iconst (v := 1) d_Grouping_spread_137 (by decide) ?_
                      refine mv_iadd d_Grouping_spread_138 ?_
                      refine mv_iload d_Grouping_spread_139 rfl ?_
                      refine mv_iload_n d_Grouping_spread_141 rfl rfl ?_
                      have := mz_hi i5_37
                      have := mz_hi x2
                      refine mv_icmp_neZ (tgt := 151) (a := i5_37.toInt) (b := x2.toInt) d_Grouping_spread_142 (by decide) rfl rfl (fun b91 => ?_) (fun b91 => ?_)
                      · refine mv_iload_n d_Grouping_spread_151 rfl rfl ?_
                        have b92 : (x1 + 1).toInt = x1.toInt + 1 := mz_addn 1 1 (by decide) (by omega) (by omega)
                        obtain ⟨_, b99, -⟩ := I89.1 _ _ t63
                        refine mv_callV (kc' := 0) (ks' := 0) (As := [.int (x1 + 1), .int x2]) (st9 := [.int x2, .int (x1 + 1), .ref o0]) d_Grouping_spread_152 lV_Grouping_77 b99 rfl (tc_Grouping_spread_q5 (d := d) (x9 := x9) (o0 := o0) (x1 := (x1 + 1)) (x2 := x2) t63 (by first | omega | decide) I89.start) rfl (Nat.le_of_ble_eq_true rfl) (Nat.le_of_ble_eq_true rfl) (Nat.le_of_ble_eq_true rfl) (hst := rfl) (fun b93r M94 n95 b93 => ?_)
                        obtain ⟨T96, J97, rfl⟩ := b93
                        have I98 := I89.call J97 (tm_sub (by decide)) (Or.inl rfl)
                        have t100 := J97.up t63
                        have q101 := J97.keep t63 (by decide) (K90 _ 7 10 _ q64)
                        have t102 := J97.up t65
                        have q103 := J97.keep t63 (by decide) (K90 _ 7 7 _ q86)
                        have t104 := J97.up t_a87
                        refine mv_aload_n d_Grouping_spread_155 rfl rfl ?_
                        obtain ⟨a106, q105, t_a106⟩ := tm_atR I98 t100 (k := 9) rfl
                        refine tr_getK q105 d_Grouping_spread_156 f_Grouping_28_7 ?_
                        refine mv_iload d_Grouping_spread_159 rfl ?_
                        refine mv_dup2_11 d_Grouping_spread_161 rfl rfl ?_
                        refine tr_iald I98 t_a106 (by decide) d_Grouping_spread_162 (vp_in_iff.mpr (by omega)) (fun v107 => ?_)
                        refine mv_iconst (v := 1) d_Grouping_spread_163 (by decide) ?_
                        refine mv_isub d_Grouping_spread_164 ?_
                        refine tr_iastK tm_okF I98 t_a106 (by decide) (Or.inl (by decide)) d_Grouping_spread_165 (vp_in_iff.mpr (by omega)) (fun M108 I109 K110 => ?_)
                        refine mv_aload_n d_Grouping_spread_166 rfl rfl ?_
                        obtain ⟨a112, q111, t_a112⟩ := tm_atR I109 t100 (k := 11) rfl
                        refine tr_getK q111 d_Grouping_spread_167 f_Grouping_34_7 ?_
                        refine mv_iload d_Grouping_spread_170 rfl ?_
                        refine mv_dup2_11 d_Grouping_spread_172 rfl rfl ?_
                        refine tr_lald I109 t_a112 (by decide) d_Grouping_spread_173 (vp_in_iff.mpr (by omega)) (fun v113 => ?_)
                        refine mv_aload_n d_Grouping_spread_174 rfl rfl ?_
                        obtain ⟨a115, q114, t_a115⟩ := tm_atR I109 t100 (k := 5) rfl
                        refine tr_getK q114 d_Grouping_spread_175 f_Grouping_15_7 ?_
                        refine mv_iload_n d_Grouping_spread_178 rfl rfl ?_
                        refine tr_lald I109 t_a115 (by decide) d_Grouping_spread_179 (vp_in_iff.mpr (by omega)) (fun v116 => ?_)
                        refine mv_lsub d_Grouping_spread_180 ?_
                        refine tr_lastK tm_okF I109 t_a112 (by decide) (Or.inl (by decide)) d_Grouping_spread_181 (vp_in_iff.mpr (by omega)) (fun M117 I118 K119 => ?_)
                        refine mv_aload_n d_Grouping_spread_182 rfl rfl ?_
                        refine tr_getK (k := 10) (K119 _ 7 10 _ (K110 _ 7 10 _ q101)) d_Grouping_spread_183 f_Grouping_31_7 ?_
                        refine mv_iload d_Grouping_spread_186 rfl ?_
                        refine mv_iload d_Grouping_spread_188 rfl ?_
                        refine tr_iastK tm_okF I118 t102 (by decide) (Or.inl (by decide)) d_Grouping_spread_190 (vp_in_iff.mpr (by omega)) (fun M120 I121 K122 => ?_)
                        refine mv_iinc (v := (i5_37 + 1)) (lv' := [(5, .int (i5_37 + 1)), (6, .int v42), (3, .long (if (v12 - v17) < v4 then v4 else (v12 - v17))), (0, .ref o0), (1, .int x1), (2, .int x2)]) d_Grouping_spread_191 rfl rfl (by decide) rfl ?_
                        refine mv_goto (tgt := 89) d_Grouping_spread_194 (by decide) ?_
                        refine mv_locals (lv' := [(5, .int (i5_37 + 1)), (3, .long (if (v12 - v17) < v4 then v4 else (v12 - v17))), (0, .ref o0), (1, .int x1), (2, .int x2)]) (by intro q hq; simp only [List.mem_cons, List.not_mem_nil, or_false] at hq; rcases hq with rfl | rfl | rfl | rfl | rfl <;> rfl) ?_
                        have b123 : (i5_37 + 1).toInt = i5_37.toInt + 1 := mz_addn 1 1 (by decide) (by have := mz_lo i5_37; omega) (by have := mz_hi i5_37; omega)
                        exact (ih37 (i5_37 + 1) T96 M120 n95 I121 t100 (by first | omega | decide) (by omega))
                      · refine mv_iload_n d_Grouping_spread_145 rfl rfl ?_
                        refine mv_iconst (v := 1) d_Grouping_spread_146 (by decide) ?_
                        refine mv_iadd d_Grouping_spread_147 ?_
                        refine mv_goto (tgt := 152) d_Grouping_spread_148 (by decide) ?_
                        have b124 : (x1 + 1).toInt = x1.toInt + 1 := mz_addn 1 1 (by decide) (by omega) (by omega)
                        obtain ⟨_, b131, -⟩ := I89.1 _ _ t63
                        refine mv_callV (kc' := 0) (ks' := 0) (As := [.int (x1 + 1), .int (x2 + 1)]) (st9 := [.int (x2 + 1), .int (x1 + 1), .ref o0]) d_Grouping_spread_152 lV_Grouping_77 b131 rfl (tc_Grouping_spread_q5 (d := d) (x9 := x9) (o0 := o0) (x1 := (x1 + 1)) (x2 := (x2 + 1)) t63 (by first | omega | decide) I89.start) rfl (Nat.le_of_ble_eq_true rfl) (Nat.le_of_ble_eq_true rfl) (Nat.le_of_ble_eq_true rfl) (hst := rfl) (fun b125r M126 n127 b125 => ?_)
                        obtain ⟨T128, J129, rfl⟩ := b125
                        have I130 := I89.call J129 (tm_sub (by decide)) (Or.inl rfl)
                        have t132 := J129.up t63
                        have q133 := J129.keep t63 (by decide) (K90 _ 7 10 _ q64)
                        have t134 := J129.up t65
                        have q135 := J129.keep t63 (by decide) (K90 _ 7 7 _ q86)
                        have t136 := J129.up t_a87
                        refine mv_aload_n d_Grouping_spread_155 rfl rfl ?_
                        obtain ⟨a138, q137, t_a138⟩ := tm_atR I130 t132 (k := 9) rfl
                        refine tr_getK q137 d_Grouping_spread_156 f_Grouping_28_7 ?_
                        refine mv_iload d_Grouping_spread_159 rfl ?_
                        refine mv_dup2_11 d_Grouping_spread_161 rfl rfl ?_
                        refine tr_iald I130 t_a138 (by decide) d_Grouping_spread_162 (vp_in_iff.mpr (by omega)) (fun v139 => ?_)
                        refine mv_iconst (v := 1) d_Grouping_spread_163 (by decide) ?_
                        refine mv_isub d_Grouping_spread_164 ?_
                        refine tr_iastK tm_okF I130 t_a138 (by decide) (Or.inl (by decide)) d_Grouping_spread_165 (vp_in_iff.mpr (by omega)) (fun M140 I141 K142 => ?_)
                        refine mv_aload_n d_Grouping_spread_166 rfl rfl ?_
                        obtain ⟨a144, q143, t_a144⟩ := tm_atR I141 t132 (k := 11) rfl
                        refine tr_getK q143 d_Grouping_spread_167 f_Grouping_34_7 ?_
                        refine mv_iload d_Grouping_spread_170 rfl ?_
                        refine mv_dup2_11 d_Grouping_spread_172 rfl rfl ?_
                        refine tr_lald I141 t_a144 (by decide) d_Grouping_spread_173 (vp_in_iff.mpr (by omega)) (fun v145 => ?_)
                        refine mv_aload_n d_Grouping_spread_174 rfl rfl ?_
                        obtain ⟨a147, q146, t_a147⟩ := tm_atR I141 t132 (k := 5) rfl
                        refine tr_getK q146 d_Grouping_spread_175 f_Grouping_15_7 ?_
                        refine mv_iload_n d_Grouping_spread_178 rfl rfl ?_
                        refine tr_lald I141 t_a147 (by decide) d_Grouping_spread_179 (vp_in_iff.mpr (by omega)) (fun v148 => ?_)
                        refine mv_lsub d_Grouping_spread_180 ?_
                        refine tr_lastK tm_okF I141 t_a144 (by decide) (Or.inl (by decide)) d_Grouping_spread_181 (vp_in_iff.mpr (by omega)) (fun M149 I150 K151 => ?_)
                        refine mv_aload_n d_Grouping_spread_182 rfl rfl ?_
                        refine tr_getK (k := 10) (K151 _ 7 10 _ (K142 _ 7 10 _ q133)) d_Grouping_spread_183 f_Grouping_31_7 ?_
                        refine mv_iload d_Grouping_spread_186 rfl ?_
                        refine mv_iload d_Grouping_spread_188 rfl ?_
                        refine tr_iastK tm_okF I150 t134 (by decide) (Or.inl (by decide)) d_Grouping_spread_190 (vp_in_iff.mpr (by omega)) (fun M152 I153 K154 => ?_)
                        refine mv_iinc (v := (i5_37 + 1)) (lv' := [(5, .int (i5_37 + 1)), (6, .int v42), (3, .long (if (v12 - v17) < v4 then v4 else (v12 - v17))), (0, .ref o0), (1, .int x1), (2, .int x2)]) d_Grouping_spread_191 rfl rfl (by decide) rfl ?_
                        refine mv_goto (tgt := 89) d_Grouping_spread_194 (by decide) ?_
                        refine mv_locals (lv' := [(5, .int (i5_37 + 1)), (3, .long (if (v12 - v17) < v4 then v4 else (v12 - v17))), (0, .ref o0), (1, .int x1), (2, .int x2)]) (by intro q hq; simp only [List.mem_cons, List.not_mem_nil, or_false] at hq; rcases hq with rfl | rfl | rfl | rfl | rfl <;> rfl) ?_
                        have b155 : (i5_37 + 1).toInt = i5_37.toInt + 1 := mz_addn 1 1 (by decide) (by have := mz_lo i5_37; omega) (by have := mz_hi i5_37; omega)
                        exact (ih37 (i5_37 + 1) T128 M152 n127 I153 t132 (by first | omega | decide) (by omega))
            exact mv_less (Nat.zero_le _) (Nat.zero_le _) (L89_37 4294967296 0 T8 M6 n7 I10 t13 (by first | omega | decide) (by show (2147483647 - (0 : Int) : Int) < _; decide))
          · refine mv_aload_n d_Grouping_spread_79 rfl rfl ?_
            refine mv_lload_n d_Grouping_spread_80 rfl rfl ?_
            refine mv_iload_n d_Grouping_spread_81 rfl rfl ?_
            obtain ⟨_, b162, -⟩ := I10.1 _ _ t13
            refine mv_callV (kc' := 0) (ks' := 0) (As := [.long (if (v12 - v17) < v4 then v4 else (v12 - v17)), .int x2]) (st9 := [.int x2, .long (if (v12 - v17) < v4 then v4 else (v12 - v17)), .ref o0]) d_Grouping_spread_82 lV_Grouping_80 b162 rfl (tc_Grouping_keepAsBest (d := (d + 6)) (x9 := x9) (o0 := o0) (x1 := (if (v12 - v17) < v4 then v4 else (v12 - v17))) (x2 := x2) t13 I10.start) rfl (Nat.le_of_ble_eq_true rfl) (Nat.le_of_ble_eq_true rfl) (Nat.le_of_ble_eq_true rfl) (hst := rfl) (fun b156r M157 n158 b156 => ?_)
            obtain ⟨T159, J160, rfl⟩ := b156
            have I161 := I10.call J160 (tm_sub (by decide)) (Or.inl rfl)
            have t163 := J160.up t13
            have q164 := J160.keep t13 (by decide) q14
            have q165 := J160.keep t13 (by decide) q15
            have t166 := J160.up t_a16
            have q167 := J160.keep t13 (by decide) q21
            exact mv_vret d_Grouping_spread_85 rfl ⟨_, I161, rfl⟩
      · refine mv_lload_n d_Grouping_spread_38 rfl rfl ?_
        refine mv_aload_n d_Grouping_spread_39 rfl rfl ?_
        obtain ⟨v169, q168⟩ := tm_atL I10 t13 (k := 0) rfl
        refine tr_getK q168 d_Grouping_spread_40 f_Grouping_50_7 ?_
        refine mv_lgtZ (tgt := 64) (a := (if (v12 - v17) < v4 then v4 else (v12 - v17)).toInt) (b := v169.toInt) d_Grouping_spread_43 d_Grouping_spread_44 (by decide) rfl rfl (fun b170 => ?_) (fun b170 => ?_)
        · exact mv_vret d_Grouping_spread_64 rfl ⟨_, I10, rfl⟩
        · refine mv_lload_n d_Grouping_spread_47 rfl rfl ?_
          refine mv_aload_n d_Grouping_spread_48 rfl rfl ?_
          refine tr_getK (k := 0) q168 d_Grouping_spread_49 f_Grouping_50_7 ?_
          refine mv_lneZ (tgt := 65) (a := (if (v12 - v17) < v4 then v4 else (v12 - v17)).toInt) (b := v169.toInt) d_Grouping_spread_52 d_Grouping_spread_53 (by decide) rfl rfl (fun b171 => ?_) (fun b171 => ?_)
          · refine mv_iload_n d_Grouping_spread_65 rfl rfl ?_
            refine mv_aload_n d_Grouping_spread_66 rfl rfl ?_
            obtain ⟨v173, q172⟩ := tm_atI I10 t13 (k := 2) rfl
            refine tr_getK q172 d_Grouping_spread_67 f_Grouping_44_7 ?_
            have := mz_hi x1
            have := mz_hi v173
            refine mv_icmp_geZ (tgt := 79) (a := x1.toInt) (b := v173.toInt) d_Grouping_spread_70 (by decide) rfl rfl (fun b174 => ?_) (fun b174 => ?_)
            · refine mv_aload_n d_Grouping_spread_79 rfl rfl ?_
              refine mv_lload_n d_Grouping_spread_80 rfl rfl ?_
              refine mv_iload_n d_Grouping_spread_81 rfl rfl ?_
              obtain ⟨_, b181, -⟩ := I10.1 _ _ t13
              refine mv_callV (kc' := 0) (ks' := 0) (As := [.long (if (v12 - v17) < v4 then v4 else (v12 - v17)), .int x2]) (st9 := [.int x2, .long (if (v12 - v17) < v4 then v4 else (v12 - v17)), .ref o0]) d_Grouping_spread_82 lV_Grouping_80 b181 rfl (tc_Grouping_keepAsBest (d := (d + 6)) (x9 := x9) (o0 := o0) (x1 := (if (v12 - v17) < v4 then v4 else (v12 - v17))) (x2 := x2) t13 I10.start) rfl (Nat.le_of_ble_eq_true rfl) (Nat.le_of_ble_eq_true rfl) (Nat.le_of_ble_eq_true rfl) (hst := rfl) (fun b175r M176 n177 b175 => ?_)
              obtain ⟨T178, J179, rfl⟩ := b175
              have I180 := I10.call J179 (tm_sub (by decide)) (Or.inl rfl)
              have t182 := J179.up t13
              have q183 := J179.keep t13 (by decide) q14
              have q184 := J179.keep t13 (by decide) q15
              have t185 := J179.up t_a16
              have q186 := J179.keep t13 (by decide) q172
              exact mv_vret d_Grouping_spread_85 rfl ⟨_, I180, rfl⟩
            · refine mv_iload_n d_Grouping_spread_73 rfl rfl ?_
              refine mv_bipush (v := 8) d_Grouping_spread_74 (by decide) ?_
              have := mz_hi x1
              refine mv_icmp_neZ (tgt := 86) (a := x1.toInt) (b := 8) d_Grouping_spread_76 (by decide) rfl (by decide) (fun b187 => ?_) (fun b187 => ?_)
              · refine mv_iconst (v := 0) d_Grouping_spread_86 (by decide) ?_
                refine mv_istore (lv' := [(5, .int 0), (3, .long (if (v12 - v17) < v4 then v4 else (v12 - v17))), (0, .ref o0), (1, .int x1), (2, .int x2)]) d_Grouping_spread_87 (by decide) rfl ?_
                have L89_188 : ∀ (k : Nat) (i5_188 : Int32) (T_188 : tm_H) (M_188 : mj_M) (n_188 : Nat), tm_I tm_FT (tm_in w_Grouping_spread_q6) x9 T0 M0 n0 T_188 M_188 n_188 → T_188 o0 = some (0, 7, 0) → 0 ≤ i5_188.toInt → 2147483647 - i5_188.toInt < (k : Int) → mj_V g l kY_Grouping_spread (d + 7) 89 [(5, .int i5_188), (3, .long (if (v12 - v17) < v4 then v4 else (v12 - v17))), (0, .ref o0), (1, .int x1), (2, .int x2)] [] M_188 n_188 0 0 (tm_Q tm_FT (tm_in w_Grouping_spread_q6) x9 T0 M0 n0 (fun r _ _ => r = none)) := by
                  intro k188
                  induction k188 with
                  | zero =>
                    intro i5_188 T_188 M_188 n_188 I_188 h_q0_188 iv0_188 hk188
                    have := mz_hi i5_188
                    omega
                  | succ k188 ih188 =>
                    intro i5_188 T_188 M_188 n_188 I_188 h_q0_188 iv0_188 hk188
                    refine mv_iload d_Grouping_spread_89 rfl ?_
                    refine mv_iload_n d_Grouping_spread_91 rfl rfl ?_
                    have := mz_hi i5_188
                    have := mz_hi x2
                    refine mv_icmp_gtZ (tgt := 197) (a := i5_188.toInt) (b := x2.toInt) d_Grouping_spread_92 (by decide) rfl rfl (fun b189 => ?_) (fun b189 => ?_)
                    · exact mv_vret d_Grouping_spread_197 rfl ⟨_, I_188, rfl⟩
                    · refine mv_iload d_Grouping_spread_95 rfl ?_
                      refine mv_bipush (v := 8) d_Grouping_spread_97 (by decide) ?_
                      have := mz_hi i5_188
                      refine mv_icmp_geZ (tgt := 197) (a := i5_188.toInt) (b := 8) d_Grouping_spread_99 (by decide) rfl (by decide) (fun b190 => ?_) (fun b190 => ?_)
                      · exact mv_vret d_Grouping_spread_197 rfl ⟨_, I_188, rfl⟩
                      · refine mv_aload_n d_Grouping_spread_102 rfl rfl ?_
                        obtain ⟨a192, q191, t_a192⟩ := tm_atR I_188 h_q0_188 (k := 10) rfl
                        refine tr_getK q191 d_Grouping_spread_103 f_Grouping_31_7 ?_
                        refine mv_iload d_Grouping_spread_106 rfl ?_
                        refine tr_iald I_188 t_a192 (by decide) d_Grouping_spread_108 (vp_in_iff.mpr (by omega)) (fun v193 => ?_)
                        refine mv_istore (lv' := [(6, .int v193), (5, .int i5_188), (3, .long (if (v12 - v17) < v4 then v4 else (v12 - v17))), (0, .ref o0), (1, .int x1), (2, .int x2)]) d_Grouping_spread_109 (by decide) rfl ?_
                        refine mv_aload_n d_Grouping_spread_111 rfl rfl ?_
                        refine mv_iload_n d_Grouping_spread_112 rfl rfl ?_
                        refine mv_iload d_Grouping_spread_113 rfl ?_
                        obtain ⟨_, b200, -⟩ := I_188.1 _ _ h_q0_188
                        refine mv_callV (kc' := 0) (ks' := 0) (As := [.int x1, .int i5_188]) (st9 := [.int i5_188, .int x1, .ref o0]) d_Grouping_spread_115 lV_Grouping_56 b200 rfl (tc_Grouping_put (d := (d + 6)) (x9 := x9) (o0 := o0) (x1 := x1) (x2 := i5_188) h_q0_188 I_188.start) rfl (Nat.le_of_ble_eq_true rfl) (Nat.le_of_ble_eq_true rfl) (Nat.le_of_ble_eq_true rfl) (hst := rfl) (fun b194r M195 n196 b194 => ?_)
                        obtain ⟨T197, J198, rfl⟩ := b194
                        have I199 := I_188.call J198 (tm_sub (by decide)) (Or.inl rfl)
                        have t201 := J198.up h_q0_188
                        have q202 := J198.keep h_q0_188 (by decide) q191
                        have t203 := J198.up t_a192
                        refine mv_aload_n d_Grouping_spread_118 rfl rfl ?_
                        refine mv_iload d_Grouping_spread_119 rfl ?_
                        obtain ⟨_, b210, -⟩ := I199.1 _ _ t201
                        refine mv_callV (kc' := 0) (ks' := 0) (As := [.int i5_188]) (st9 := [.int i5_188, .ref o0]) d_Grouping_spread_121 lV_Grouping_60 b210 rfl (tc_Grouping_holdsTogether (d := (d + 5)) (x9 := x9) (o0 := o0) (x1 := i5_188) t201 I199.start) rfl (Nat.le_of_ble_eq_true rfl) (Nat.le_of_ble_eq_true rfl) (Nat.le_of_ble_eq_true rfl) (hst := rfl) (fun b204r M205 n206 b204 => ?_)
                        obtain ⟨T207, J208, v211, rfl, b212, b213⟩ := b204
                        have I209 := I199.call J208 (tm_sub (by decide)) (Or.inl rfl)
                        have t214 := J208.up t201
                        have q215 := J208.keep t201 (by decide) q202
                        have t216 := J208.up t203
                        have := mz_hi v211
                        refine mv_if_eqZ (tgt := 155) (a := v211.toInt) d_Grouping_spread_124 (by decide) rfl (fun b217 => ?_) (fun b217 => ?_)
                        · refine mv_aload_n d_Grouping_spread_155 rfl rfl ?_
                          obtain ⟨a219, q218, t_a219⟩ := tm_atR I209 t214 (k := 9) rfl
                          refine tr_getK q218 d_Grouping_spread_156 f_Grouping_28_7 ?_
                          refine mv_iload d_Grouping_spread_159 rfl ?_
                          refine mv_dup2_11 d_Grouping_spread_161 rfl rfl ?_
                          refine tr_iald I209 t_a219 (by decide) d_Grouping_spread_162 (vp_in_iff.mpr (by omega)) (fun v220 => ?_)
                          refine mv_iconst (v := 1) d_Grouping_spread_163 (by decide) ?_
                          refine mv_isub d_Grouping_spread_164 ?_
                          refine tr_iastK tm_okF I209 t_a219 (by decide) (Or.inl (by decide)) d_Grouping_spread_165 (vp_in_iff.mpr (by omega)) (fun M221 I222 K223 => ?_)
                          refine mv_aload_n d_Grouping_spread_166 rfl rfl ?_
                          obtain ⟨a225, q224, t_a225⟩ := tm_atR I222 t214 (k := 11) rfl
                          refine tr_getK q224 d_Grouping_spread_167 f_Grouping_34_7 ?_
                          refine mv_iload d_Grouping_spread_170 rfl ?_
                          refine mv_dup2_11 d_Grouping_spread_172 rfl rfl ?_
                          refine tr_lald I222 t_a225 (by decide) d_Grouping_spread_173 (vp_in_iff.mpr (by omega)) (fun v226 => ?_)
                          refine mv_aload_n d_Grouping_spread_174 rfl rfl ?_
                          obtain ⟨a228, q227, t_a228⟩ := tm_atR I222 t214 (k := 5) rfl
                          refine tr_getK q227 d_Grouping_spread_175 f_Grouping_15_7 ?_
                          refine mv_iload_n d_Grouping_spread_178 rfl rfl ?_
                          refine tr_lald I222 t_a228 (by decide) d_Grouping_spread_179 (vp_in_iff.mpr (by omega)) (fun v229 => ?_)
                          refine mv_lsub d_Grouping_spread_180 ?_
                          refine tr_lastK tm_okF I222 t_a225 (by decide) (Or.inl (by decide)) d_Grouping_spread_181 (vp_in_iff.mpr (by omega)) (fun M230 I231 K232 => ?_)
                          refine mv_aload_n d_Grouping_spread_182 rfl rfl ?_
                          refine tr_getK (k := 10) (K232 _ 7 10 _ (K223 _ 7 10 _ q215)) d_Grouping_spread_183 f_Grouping_31_7 ?_
                          refine mv_iload d_Grouping_spread_186 rfl ?_
                          refine mv_iload d_Grouping_spread_188 rfl ?_
                          refine tr_iastK tm_okF I231 t216 (by decide) (Or.inl (by decide)) d_Grouping_spread_190 (vp_in_iff.mpr (by omega)) (fun M233 I234 K235 => ?_)
                          refine mv_iinc (v := (i5_188 + 1)) (lv' := [(5, .int (i5_188 + 1)), (6, .int v193), (3, .long (if (v12 - v17) < v4 then v4 else (v12 - v17))), (0, .ref o0), (1, .int x1), (2, .int x2)]) d_Grouping_spread_191 rfl rfl (by decide) rfl ?_
                          refine mv_goto (tgt := 89) d_Grouping_spread_194 (by decide) ?_
                          refine mv_locals (lv' := [(5, .int (i5_188 + 1)), (3, .long (if (v12 - v17) < v4 then v4 else (v12 - v17))), (0, .ref o0), (1, .int x1), (2, .int x2)]) (by intro q hq; simp only [List.mem_cons, List.not_mem_nil, or_false] at hq; rcases hq with rfl | rfl | rfl | rfl | rfl <;> rfl) ?_
                          have b236 : (i5_188 + 1).toInt = i5_188.toInt + 1 := mz_addn 1 1 (by decide) (by have := mz_lo i5_188; omega) (by have := mz_hi i5_188; omega)
                          exact (ih188 (i5_188 + 1) T207 M233 n206 I234 t214 (by first | omega | decide) (by omega))
                        · refine mv_aload_n d_Grouping_spread_127 rfl rfl ?_
                          obtain ⟨a238, q237, t_a238⟩ := tm_atR I209 t214 (k := 7) rfl
                          refine tr_getK q237 d_Grouping_spread_128 f_Grouping_22_7 ?_
                          refine mv_iload_n d_Grouping_spread_131 rfl rfl ?_
                          refine mv_iload d_Grouping_spread_132 rfl ?_
                          refine tr_iastK tm_okF I209 t_a238 (by decide) (Or.inl (by decide)) d_Grouping_spread_134 (vp_in_iff.mpr (by omega)) (fun M239 I240 K241 => ?_)
                          refine mv_aload_n d_Grouping_spread_135 rfl rfl ?_
                          refine mv_iload_n d_Grouping_spread_136 rfl rfl ?_
                          refine mv_iconst (v := 1) d_Grouping_spread_137 (by decide) ?_
                          refine mv_iadd d_Grouping_spread_138 ?_
                          refine mv_iload d_Grouping_spread_139 rfl ?_
                          refine mv_iload_n d_Grouping_spread_141 rfl rfl ?_
                          have := mz_hi i5_188
                          have := mz_hi x2
                          refine mv_icmp_neZ (tgt := 151) (a := i5_188.toInt) (b := x2.toInt) d_Grouping_spread_142 (by decide) rfl rfl (fun b242 => ?_) (fun b242 => ?_)
                          · refine mv_iload_n d_Grouping_spread_151 rfl rfl ?_
                            have b243 : (x1 + 1).toInt = x1.toInt + 1 := mz_addn 1 1 (by decide) (by omega) (by omega)
                            obtain ⟨_, b250, -⟩ := I240.1 _ _ t214
                            refine mv_callV (kc' := 0) (ks' := 0) (As := [.int (x1 + 1), .int x2]) (st9 := [.int x2, .int (x1 + 1), .ref o0]) d_Grouping_spread_152 lV_Grouping_77 b250 rfl (tc_Grouping_spread_q5 (d := d) (x9 := x9) (o0 := o0) (x1 := (x1 + 1)) (x2 := x2) t214 (by first | omega | decide) I240.start) rfl (Nat.le_of_ble_eq_true rfl) (Nat.le_of_ble_eq_true rfl) (Nat.le_of_ble_eq_true rfl) (hst := rfl) (fun b244r M245 n246 b244 => ?_)
                            obtain ⟨T247, J248, rfl⟩ := b244
                            have I249 := I240.call J248 (tm_sub (by decide)) (Or.inl rfl)
                            have t251 := J248.up t214
                            have q252 := J248.keep t214 (by decide) (K241 _ 7 10 _ q215)
                            have t253 := J248.up t216
                            have q254 := J248.keep t214 (by decide) (K241 _ 7 7 _ q237)
                            have t255 := J248.up t_a238
                            refine mv_aload_n d_Grouping_spread_155 rfl rfl ?_
                            obtain ⟨a257, q256, t_a257⟩ := tm_atR I249 t251 (k := 9) rfl
                            refine tr_getK q256 d_Grouping_spread_156 f_Grouping_28_7 ?_
                            refine mv_iload d_Grouping_spread_159 rfl ?_
                            refine mv_dup2_11 d_Grouping_spread_161 rfl rfl ?_
                            refine tr_iald I249 t_a257 (by decide) d_Grouping_spread_162 (vp_in_iff.mpr (by omega)) (fun v258 => ?_)
                            refine mv_iconst (v := 1) d_Grouping_spread_163 (by decide) ?_
                            refine mv_isub d_Grouping_spread_164 ?_
                            refine tr_iastK tm_okF I249 t_a257 (by decide) (Or.inl (by decide)) d_Grouping_spread_165 (vp_in_iff.mpr (by omega)) (fun M259 I260 K261 => ?_)
                            refine mv_aload_n d_Grouping_spread_166 rfl rfl ?_
                            obtain ⟨a263, q262, t_a263⟩ := tm_atR I260 t251 (k := 11) rfl
                            refine tr_getK q262 d_Grouping_spread_167 f_Grouping_34_7 ?_
                            refine mv_iload d_Grouping_spread_170 rfl ?_
                            refine mv_dup2_11 d_Grouping_spread_172 rfl rfl ?_
                            refine tr_lald I260 t_a263 (by decide) d_Grouping_spread_173 (vp_in_iff.mpr (by omega)) (fun v264 => ?_)
                            refine mv_aload_n d_Grouping_spread_174 rfl rfl ?_
                            obtain ⟨a266, q265, t_a266⟩ := tm_atR I260 t251 (k := 5) rfl
                            refine tr_getK q265 d_Grouping_spread_175 f_Grouping_15_7 ?_
                            refine mv_iload_n d_Grouping_spread_178 rfl rfl ?_
                            refine tr_lald I260 t_a266 (by decide) d_Grouping_spread_179 (vp_in_iff.mpr (by omega)) (fun v267 => ?_)
                            refine mv_lsub d_Grouping_spread_180 ?_
                            refine tr_lastK tm_okF I260 t_a263 (by decide) (Or.inl (by decide)) d_Grouping_spread_181 (vp_in_iff.mpr (by omega)) (fun M268 I269 K270 => ?_)
                            refine mv_aload_n d_Grouping_spread_182 rfl rfl ?_
                            refine tr_getK (k := 10) (K270 _ 7 10 _ (K261 _ 7 10 _ q252)) d_Grouping_spread_183 f_Grouping_31_7 ?_
                            refine mv_iload d_Grouping_spread_186 rfl ?_
                            refine mv_iload d_Grouping_spread_188 rfl ?_
                            refine tr_iastK tm_okF I269 t253 (by decide) (Or.inl (by decide)) d_Grouping_spread_190 (vp_in_iff.mpr (by omega)) (fun M271 I272 K273 => ?_)
                            refine mv_iinc (v := (i5_188 + 1)) (lv' := [(5, .int (i5_188 + 1)), (6, .int v193), (3, .long (if (v12 - v17) < v4 then v4 else (v12 - v17))), (0, .ref o0), (1, .int x1), (2, .int x2)]) d_Grouping_spread_191 rfl rfl (by decide) rfl ?_
                            refine mv_goto (tgt := 89) d_Grouping_spread_194 (by decide) ?_
                            refine mv_locals (lv' := [(5, .int (i5_188 + 1)), (3, .long (if (v12 - v17) < v4 then v4 else (v12 - v17))), (0, .ref o0), (1, .int x1), (2, .int x2)]) (by intro q hq; simp only [List.mem_cons, List.not_mem_nil, or_false] at hq; rcases hq with rfl | rfl | rfl | rfl | rfl <;> rfl) ?_
                            have b274 : (i5_188 + 1).toInt = i5_188.toInt + 1 := mz_addn 1 1 (by decide) (by have := mz_lo i5_188; omega) (by have := mz_hi i5_188; omega)
                            exact (ih188 (i5_188 + 1) T247 M271 n246 I272 t251 (by first | omega | decide) (by omega))
                          · refine mv_iload_n d_Grouping_spread_145 rfl rfl ?_
                            refine mv_iconst (v := 1) d_Grouping_spread_146 (by decide) ?_
                            refine mv_iadd d_Grouping_spread_147 ?_
                            refine mv_goto (tgt := 152) d_Grouping_spread_148 (by decide) ?_
                            have b275 : (x1 + 1).toInt = x1.toInt + 1 := mz_addn 1 1 (by decide) (by omega) (by omega)
                            obtain ⟨_, b282, -⟩ := I240.1 _ _ t214
                            refine mv_callV (kc' := 0) (ks' := 0) (As := [.int (x1 + 1), .int (x2 + 1)]) (st9 := [.int (x2 + 1), .int (x1 + 1), .ref o0]) d_Grouping_spread_152 lV_Grouping_77 b282 rfl (tc_Grouping_spread_q5 (d := d) (x9 := x9) (o0 := o0) (x1 := (x1 + 1)) (x2 := (x2 + 1)) t214 (by first | omega | decide) I240.start) rfl (Nat.le_of_ble_eq_true rfl) (Nat.le_of_ble_eq_true rfl) (Nat.le_of_ble_eq_true rfl) (hst := rfl) (fun b276r M277 n278 b276 => ?_)
                            obtain ⟨T279, J280, rfl⟩ := b276
                            have I281 := I240.call J280 (tm_sub (by decide)) (Or.inl rfl)
                            have t283 := J280.up t214
                            have q284 := J280.keep t214 (by decide) (K241 _ 7 10 _ q215)
                            have t285 := J280.up t216
                            have q286 := J280.keep t214 (by decide) (K241 _ 7 7 _ q237)
                            have t287 := J280.up t_a238
                            refine mv_aload_n d_Grouping_spread_155 rfl rfl ?_
                            obtain ⟨a289, q288, t_a289⟩ := tm_atR I281 t283 (k := 9) rfl
                            refine tr_getK q288 d_Grouping_spread_156 f_Grouping_28_7 ?_
                            refine mv_iload d_Grouping_spread_159 rfl ?_
                            refine mv_dup2_11 d_Grouping_spread_161 rfl rfl ?_
                            refine tr_iald I281 t_a289 (by decide) d_Grouping_spread_162 (vp_in_iff.mpr (by omega)) (fun v290 => ?_)
                            refine mv_iconst (v := 1) d_Grouping_spread_163 (by decide) ?_
                            refine mv_isub d_Grouping_spread_164 ?_
                            refine tr_iastK tm_okF I281 t_a289 (by decide) (Or.inl (by decide)) d_Grouping_spread_165 (vp_in_iff.mpr (by omega)) (fun M291 I292 K293 => ?_)
                            refine mv_aload_n d_Grouping_spread_166 rfl rfl ?_
                            obtain ⟨a295, q294, t_a295⟩ := tm_atR I292 t283 (k := 11) rfl
                            refine tr_getK q294 d_Grouping_spread_167 f_Grouping_34_7 ?_
                            refine mv_iload d_Grouping_spread_170 rfl ?_
                            refine mv_dup2_11 d_Grouping_spread_172 rfl rfl ?_
                            refine tr_lald I292 t_a295 (by decide) d_Grouping_spread_173 (vp_in_iff.mpr (by omega)) (fun v296 => ?_)
                            refine mv_aload_n d_Grouping_spread_174 rfl rfl ?_
                            obtain ⟨a298, q297, t_a298⟩ := tm_atR I292 t283 (k := 5) rfl
                            refine tr_getK q297 d_Grouping_spread_175 f_Grouping_15_7 ?_
                            refine mv_iload_n d_Grouping_spread_178 rfl rfl ?_
                            refine tr_lald I292 t_a298 (by decide) d_Grouping_spread_179 (vp_in_iff.mpr (by omega)) (fun v299 => ?_)
                            refine mv_lsub d_Grouping_spread_180 ?_
                            refine tr_lastK tm_okF I292 t_a295 (by decide) (Or.inl (by decide)) d_Grouping_spread_181 (vp_in_iff.mpr (by omega)) (fun M300 I301 K302 => ?_)
                            refine mv_aload_n d_Grouping_spread_182 rfl rfl ?_
                            refine tr_getK (k := 10) (K302 _ 7 10 _ (K293 _ 7 10 _ q284)) d_Grouping_spread_183 f_Grouping_31_7 ?_
                            refine mv_iload d_Grouping_spread_186 rfl ?_
                            refine mv_iload d_Grouping_spread_188 rfl ?_
                            refine tr_iastK tm_okF I301 t285 (by decide) (Or.inl (by decide)) d_Grouping_spread_190 (vp_in_iff.mpr (by omega)) (fun M303 I304 K305 => ?_)
                            refine mv_iinc (v := (i5_188 + 1)) (lv' := [(5, .int (i5_188 + 1)), (6, .int v193), (3, .long (if (v12 - v17) < v4 then v4 else (v12 - v17))), (0, .ref o0), (1, .int x1), (2, .int x2)]) d_Grouping_spread_191 rfl rfl (by decide) rfl ?_
                            refine mv_goto (tgt := 89) d_Grouping_spread_194 (by decide) ?_
                            refine mv_locals (lv' := [(5, .int (i5_188 + 1)), (3, .long (if (v12 - v17) < v4 then v4 else (v12 - v17))), (0, .ref o0), (1, .int x1), (2, .int x2)]) (by intro q hq; simp only [List.mem_cons, List.not_mem_nil, or_false] at hq; rcases hq with rfl | rfl | rfl | rfl | rfl <;> rfl) ?_
                            have b306 : (i5_188 + 1).toInt = i5_188.toInt + 1 := mz_addn 1 1 (by decide) (by have := mz_lo i5_188; omega) (by have := mz_hi i5_188; omega)
                            exact (ih188 (i5_188 + 1) T279 M303 n278 I304 t283 (by first | omega | decide) (by omega))
                exact mv_less (Nat.zero_le _) (Nat.zero_le _) (L89_188 4294967296 0 T8 M6 n7 I10 t13 (by first | omega | decide) (by show (2147483647 - (0 : Int) : Int) < _; decide))
              · refine mv_aload_n d_Grouping_spread_79 rfl rfl ?_
                refine mv_lload_n d_Grouping_spread_80 rfl rfl ?_
                refine mv_iload_n d_Grouping_spread_81 rfl rfl ?_
                obtain ⟨_, b313, -⟩ := I10.1 _ _ t13
                refine mv_callV (kc' := 0) (ks' := 0) (As := [.long (if (v12 - v17) < v4 then v4 else (v12 - v17)), .int x2]) (st9 := [.int x2, .long (if (v12 - v17) < v4 then v4 else (v12 - v17)), .ref o0]) d_Grouping_spread_82 lV_Grouping_80 b313 rfl (tc_Grouping_keepAsBest (d := (d + 6)) (x9 := x9) (o0 := o0) (x1 := (if (v12 - v17) < v4 then v4 else (v12 - v17))) (x2 := x2) t13 I10.start) rfl (Nat.le_of_ble_eq_true rfl) (Nat.le_of_ble_eq_true rfl) (Nat.le_of_ble_eq_true rfl) (hst := rfl) (fun b307r M308 n309 b307 => ?_)
                obtain ⟨T310, J311, rfl⟩ := b307
                have I312 := I10.call J311 (tm_sub (by decide)) (Or.inl rfl)
                have t314 := J311.up t13
                have q315 := J311.keep t13 (by decide) q14
                have q316 := J311.keep t13 (by decide) q15
                have t317 := J311.up t_a16
                have q318 := J311.keep t13 (by decide) q172
                exact mv_vret d_Grouping_spread_85 rfl ⟨_, I312, rfl⟩
          · refine mv_iload_n d_Grouping_spread_56 rfl rfl ?_
            refine mv_aload_n d_Grouping_spread_57 rfl rfl ?_
            refine tr_getK (k := 3) q18 d_Grouping_spread_58 f_Grouping_47_7 ?_
            have := mz_hi x2
            have := mz_hi v19
            refine mv_icmp_ltZ (tgt := 65) (a := x2.toInt) (b := v19.toInt) d_Grouping_spread_61 (by decide) rfl rfl (fun b319 => ?_) (fun b319 => ?_)
            · refine mv_iload_n d_Grouping_spread_65 rfl rfl ?_
              refine mv_aload_n d_Grouping_spread_66 rfl rfl ?_
              obtain ⟨v321, q320⟩ := tm_atI I10 t13 (k := 2) rfl
              refine tr_getK q320 d_Grouping_spread_67 f_Grouping_44_7 ?_
              have := mz_hi x1
              have := mz_hi v321
              refine mv_icmp_geZ (tgt := 79) (a := x1.toInt) (b := v321.toInt) d_Grouping_spread_70 (by decide) rfl rfl (fun b322 => ?_) (fun b322 => ?_)
              · refine mv_aload_n d_Grouping_spread_79 rfl rfl ?_
                refine mv_lload_n d_Grouping_spread_80 rfl rfl ?_
                refine mv_iload_n d_Grouping_spread_81 rfl rfl ?_
                obtain ⟨_, b329, -⟩ := I10.1 _ _ t13
                refine mv_callV (kc' := 0) (ks' := 0) (As := [.long (if (v12 - v17) < v4 then v4 else (v12 - v17)), .int x2]) (st9 := [.int x2, .long (if (v12 - v17) < v4 then v4 else (v12 - v17)), .ref o0]) d_Grouping_spread_82 lV_Grouping_80 b329 rfl (tc_Grouping_keepAsBest (d := (d + 6)) (x9 := x9) (o0 := o0) (x1 := (if (v12 - v17) < v4 then v4 else (v12 - v17))) (x2 := x2) t13 I10.start) rfl (Nat.le_of_ble_eq_true rfl) (Nat.le_of_ble_eq_true rfl) (Nat.le_of_ble_eq_true rfl) (hst := rfl) (fun b323r M324 n325 b323 => ?_)
                obtain ⟨T326, J327, rfl⟩ := b323
                have I328 := I10.call J327 (tm_sub (by decide)) (Or.inl rfl)
                have t330 := J327.up t13
                have q331 := J327.keep t13 (by decide) q14
                have q332 := J327.keep t13 (by decide) q15
                have t333 := J327.up t_a16
                have q334 := J327.keep t13 (by decide) q320
                exact mv_vret d_Grouping_spread_85 rfl ⟨_, I328, rfl⟩
              · refine mv_iload_n d_Grouping_spread_73 rfl rfl ?_
                refine mv_bipush (v := 8) d_Grouping_spread_74 (by decide) ?_
                have := mz_hi x1
                refine mv_icmp_neZ (tgt := 86) (a := x1.toInt) (b := 8) d_Grouping_spread_76 (by decide) rfl (by decide) (fun b335 => ?_) (fun b335 => ?_)
                · refine mv_iconst (v := 0) d_Grouping_spread_86 (by decide) ?_
                  refine mv_istore (lv' := [(5, .int 0), (3, .long (if (v12 - v17) < v4 then v4 else (v12 - v17))), (0, .ref o0), (1, .int x1), (2, .int x2)]) d_Grouping_spread_87 (by decide) rfl ?_
                  have L89_336 : ∀ (k : Nat) (i5_336 : Int32) (T_336 : tm_H) (M_336 : mj_M) (n_336 : Nat), tm_I tm_FT (tm_in w_Grouping_spread_q6) x9 T0 M0 n0 T_336 M_336 n_336 → T_336 o0 = some (0, 7, 0) → 0 ≤ i5_336.toInt → 2147483647 - i5_336.toInt < (k : Int) → mj_V g l kY_Grouping_spread (d + 7) 89 [(5, .int i5_336), (3, .long (if (v12 - v17) < v4 then v4 else (v12 - v17))), (0, .ref o0), (1, .int x1), (2, .int x2)] [] M_336 n_336 0 0 (tm_Q tm_FT (tm_in w_Grouping_spread_q6) x9 T0 M0 n0 (fun r _ _ => r = none)) := by
                    intro k336
                    induction k336 with
                    | zero =>
                      intro i5_336 T_336 M_336 n_336 I_336 h_q0_336 iv0_336 hk336
                      have := mz_hi i5_336
                      omega
                    | succ k336 ih336 =>
                      intro i5_336 T_336 M_336 n_336 I_336 h_q0_336 iv0_336 hk336
                      refine mv_iload d_Grouping_spread_89 rfl ?_
                      refine mv_iload_n d_Grouping_spread_91 rfl rfl ?_
                      have := mz_hi i5_336
                      have := mz_hi x2
                      refine mv_icmp_gtZ (tgt := 197) (a := i5_336.toInt) (b := x2.toInt) d_Grouping_spread_92 (by decide) rfl rfl (fun b337 => ?_) (fun b337 => ?_)
                      · exact mv_vret d_Grouping_spread_197 rfl ⟨_, I_336, rfl⟩
                      · refine mv_iload d_Grouping_spread_95 rfl ?_
                        refine mv_bipush (v := 8) d_Grouping_spread_97 (by decide) ?_
                        have := mz_hi i5_336
                        refine mv_icmp_geZ (tgt := 197) (a := i5_336.toInt) (b := 8) d_Grouping_spread_99 (by decide) rfl (by decide) (fun b338 => ?_) (fun b338 => ?_)
                        · exact mv_vret d_Grouping_spread_197 rfl ⟨_, I_336, rfl⟩
                        · refine mv_aload_n d_Grouping_spread_102 rfl rfl ?_
                          obtain ⟨a340, q339, t_a340⟩ := tm_atR I_336 h_q0_336 (k := 10) rfl
                          refine tr_getK q339 d_Grouping_spread_103 f_Grouping_31_7 ?_
                          refine mv_iload d_Grouping_spread_106 rfl ?_
                          refine tr_iald I_336 t_a340 (by decide) d_Grouping_spread_108 (vp_in_iff.mpr (by omega)) (fun v341 => ?_)
                          refine mv_istore (lv' := [(6, .int v341), (5, .int i5_336), (3, .long (if (v12 - v17) < v4 then v4 else (v12 - v17))), (0, .ref o0), (1, .int x1), (2, .int x2)]) d_Grouping_spread_109 (by decide) rfl ?_
                          refine mv_aload_n d_Grouping_spread_111 rfl rfl ?_
                          refine mv_iload_n d_Grouping_spread_112 rfl rfl ?_
                          refine mv_iload d_Grouping_spread_113 rfl ?_
                          obtain ⟨_, b348, -⟩ := I_336.1 _ _ h_q0_336
                          refine mv_callV (kc' := 0) (ks' := 0) (As := [.int x1, .int i5_336]) (st9 := [.int i5_336, .int x1, .ref o0]) d_Grouping_spread_115 lV_Grouping_56 b348 rfl (tc_Grouping_put (d := (d + 6)) (x9 := x9) (o0 := o0) (x1 := x1) (x2 := i5_336) h_q0_336 I_336.start) rfl (Nat.le_of_ble_eq_true rfl) (Nat.le_of_ble_eq_true rfl) (Nat.le_of_ble_eq_true rfl) (hst := rfl) (fun b342r M343 n344 b342 => ?_)
                          obtain ⟨T345, J346, rfl⟩ := b342
                          have I347 := I_336.call J346 (tm_sub (by decide)) (Or.inl rfl)
                          have t349 := J346.up h_q0_336
                          have q350 := J346.keep h_q0_336 (by decide) q339
                          have t351 := J346.up t_a340
                          refine mv_aload_n d_Grouping_spread_118 rfl rfl ?_
                          refine mv_iload d_Grouping_spread_119 rfl ?_
                          obtain ⟨_, b358, -⟩ := I347.1 _ _ t349
                          refine mv_callV (kc' := 0) (ks' := 0) (As := [.int i5_336]) (st9 := [.int i5_336, .ref o0]) d_Grouping_spread_121 lV_Grouping_60 b358 rfl (tc_Grouping_holdsTogether (d := (d + 5)) (x9 := x9) (o0 := o0) (x1 := i5_336) t349 I347.start) rfl (Nat.le_of_ble_eq_true rfl) (Nat.le_of_ble_eq_true rfl) (Nat.le_of_ble_eq_true rfl) (hst := rfl) (fun b352r M353 n354 b352 => ?_)
                          obtain ⟨T355, J356, v359, rfl, b360, b361⟩ := b352
                          have I357 := I347.call J356 (tm_sub (by decide)) (Or.inl rfl)
                          have t362 := J356.up t349
                          have q363 := J356.keep t349 (by decide) q350
                          have t364 := J356.up t351
                          have := mz_hi v359
                          refine mv_if_eqZ (tgt := 155) (a := v359.toInt) d_Grouping_spread_124 (by decide) rfl (fun b365 => ?_) (fun b365 => ?_)
                          · refine mv_aload_n d_Grouping_spread_155 rfl rfl ?_
                            obtain ⟨a367, q366, t_a367⟩ := tm_atR I357 t362 (k := 9) rfl
                            refine tr_getK q366 d_Grouping_spread_156 f_Grouping_28_7 ?_
                            refine mv_iload d_Grouping_spread_159 rfl ?_
                            refine mv_dup2_11 d_Grouping_spread_161 rfl rfl ?_
                            refine tr_iald I357 t_a367 (by decide) d_Grouping_spread_162 (vp_in_iff.mpr (by omega)) (fun v368 => ?_)
                            refine mv_iconst (v := 1) d_Grouping_spread_163 (by decide) ?_
                            refine mv_isub d_Grouping_spread_164 ?_
                            refine tr_iastK tm_okF I357 t_a367 (by decide) (Or.inl (by decide)) d_Grouping_spread_165 (vp_in_iff.mpr (by omega)) (fun M369 I370 K371 => ?_)
                            refine mv_aload_n d_Grouping_spread_166 rfl rfl ?_
                            obtain ⟨a373, q372, t_a373⟩ := tm_atR I370 t362 (k := 11) rfl
                            refine tr_getK q372 d_Grouping_spread_167 f_Grouping_34_7 ?_
                            refine mv_iload d_Grouping_spread_170 rfl ?_
                            refine mv_dup2_11 d_Grouping_spread_172 rfl rfl ?_
                            refine tr_lald I370 t_a373 (by decide) d_Grouping_spread_173 (vp_in_iff.mpr (by omega)) (fun v374 => ?_)
                            refine mv_aload_n d_Grouping_spread_174 rfl rfl ?_
                            obtain ⟨a376, q375, t_a376⟩ := tm_atR I370 t362 (k := 5) rfl
                            refine tr_getK q375 d_Grouping_spread_175 f_Grouping_15_7 ?_
                            refine mv_iload_n d_Grouping_spread_178 rfl rfl ?_
                            refine tr_lald I370 t_a376 (by decide) d_Grouping_spread_179 (vp_in_iff.mpr (by omega)) (fun v377 => ?_)
                            refine mv_lsub d_Grouping_spread_180 ?_
                            refine tr_lastK tm_okF I370 t_a373 (by decide) (Or.inl (by decide)) d_Grouping_spread_181 (vp_in_iff.mpr (by omega)) (fun M378 I379 K380 => ?_)
                            refine mv_aload_n d_Grouping_spread_182 rfl rfl ?_
                            refine tr_getK (k := 10) (K380 _ 7 10 _ (K371 _ 7 10 _ q363)) d_Grouping_spread_183 f_Grouping_31_7 ?_
                            refine mv_iload d_Grouping_spread_186 rfl ?_
                            refine mv_iload d_Grouping_spread_188 rfl ?_
                            refine tr_iastK tm_okF I379 t364 (by decide) (Or.inl (by decide)) d_Grouping_spread_190 (vp_in_iff.mpr (by omega)) (fun M381 I382 K383 => ?_)
                            refine mv_iinc (v := (i5_336 + 1)) (lv' := [(5, .int (i5_336 + 1)), (6, .int v341), (3, .long (if (v12 - v17) < v4 then v4 else (v12 - v17))), (0, .ref o0), (1, .int x1), (2, .int x2)]) d_Grouping_spread_191 rfl rfl (by decide) rfl ?_
                            refine mv_goto (tgt := 89) d_Grouping_spread_194 (by decide) ?_
                            refine mv_locals (lv' := [(5, .int (i5_336 + 1)), (3, .long (if (v12 - v17) < v4 then v4 else (v12 - v17))), (0, .ref o0), (1, .int x1), (2, .int x2)]) (by intro q hq; simp only [List.mem_cons, List.not_mem_nil, or_false] at hq; rcases hq with rfl | rfl | rfl | rfl | rfl <;> rfl) ?_
                            have b384 : (i5_336 + 1).toInt = i5_336.toInt + 1 := mz_addn 1 1 (by decide) (by have := mz_lo i5_336; omega) (by have := mz_hi i5_336; omega)
                            exact (ih336 (i5_336 + 1) T355 M381 n354 I382 t362 (by first | omega | decide) (by omega))
                          · refine mv_aload_n d_Grouping_spread_127 rfl rfl ?_
                            obtain ⟨a386, q385, t_a386⟩ := tm_atR I357 t362 (k := 7) rfl
                            refine tr_getK q385 d_Grouping_spread_128 f_Grouping_22_7 ?_
                            refine mv_iload_n d_Grouping_spread_131 rfl rfl ?_
                            refine mv_iload d_Grouping_spread_132 rfl ?_
                            refine tr_iastK tm_okF I357 t_a386 (by decide) (Or.inl (by decide)) d_Grouping_spread_134 (vp_in_iff.mpr (by omega)) (fun M387 I388 K389 => ?_)
                            refine mv_aload_n d_Grouping_spread_135 rfl rfl ?_
                            refine mv_iload_n d_Grouping_spread_136 rfl rfl ?_
                            refine mv_iconst (v := 1) d_Grouping_spread_137 (by decide) ?_
                            refine mv_iadd d_Grouping_spread_138 ?_
                            refine mv_iload d_Grouping_spread_139 rfl ?_
                            refine mv_iload_n d_Grouping_spread_141 rfl rfl ?_
                            have := mz_hi i5_336
                            have := mz_hi x2
                            refine mv_icmp_neZ (tgt := 151) (a := i5_336.toInt) (b := x2.toInt) d_Grouping_spread_142 (by decide) rfl rfl (fun b390 => ?_) (fun b390 => ?_)
                            · refine mv_iload_n d_Grouping_spread_151 rfl rfl ?_
                              have b391 : (x1 + 1).toInt = x1.toInt + 1 := mz_addn 1 1 (by decide) (by omega) (by omega)
                              obtain ⟨_, b398, -⟩ := I388.1 _ _ t362
                              refine mv_callV (kc' := 0) (ks' := 0) (As := [.int (x1 + 1), .int x2]) (st9 := [.int x2, .int (x1 + 1), .ref o0]) d_Grouping_spread_152 lV_Grouping_77 b398 rfl (tc_Grouping_spread_q5 (d := d) (x9 := x9) (o0 := o0) (x1 := (x1 + 1)) (x2 := x2) t362 (by first | omega | decide) I388.start) rfl (Nat.le_of_ble_eq_true rfl) (Nat.le_of_ble_eq_true rfl) (Nat.le_of_ble_eq_true rfl) (hst := rfl) (fun b392r M393 n394 b392 => ?_)
                              obtain ⟨T395, J396, rfl⟩ := b392
                              have I397 := I388.call J396 (tm_sub (by decide)) (Or.inl rfl)
                              have t399 := J396.up t362
                              have q400 := J396.keep t362 (by decide) (K389 _ 7 10 _ q363)
                              have t401 := J396.up t364
                              have q402 := J396.keep t362 (by decide) (K389 _ 7 7 _ q385)
                              have t403 := J396.up t_a386
                              refine mv_aload_n d_Grouping_spread_155 rfl rfl ?_
                              obtain ⟨a405, q404, t_a405⟩ := tm_atR I397 t399 (k := 9) rfl
                              refine tr_getK q404 d_Grouping_spread_156 f_Grouping_28_7 ?_
                              refine mv_iload d_Grouping_spread_159 rfl ?_
                              refine mv_dup2_11 d_Grouping_spread_161 rfl rfl ?_
                              refine tr_iald I397 t_a405 (by decide) d_Grouping_spread_162 (vp_in_iff.mpr (by omega)) (fun v406 => ?_)
                              refine mv_iconst (v := 1) d_Grouping_spread_163 (by decide) ?_
                              refine mv_isub d_Grouping_spread_164 ?_
                              refine tr_iastK tm_okF I397 t_a405 (by decide) (Or.inl (by decide)) d_Grouping_spread_165 (vp_in_iff.mpr (by omega)) (fun M407 I408 K409 => ?_)
                              refine mv_aload_n d_Grouping_spread_166 rfl rfl ?_
                              obtain ⟨a411, q410, t_a411⟩ := tm_atR I408 t399 (k := 11) rfl
                              refine tr_getK q410 d_Grouping_spread_167 f_Grouping_34_7 ?_
                              refine mv_iload d_Grouping_spread_170 rfl ?_
                              refine mv_dup2_11 d_Grouping_spread_172 rfl rfl ?_
                              refine tr_lald I408 t_a411 (by decide) d_Grouping_spread_173 (vp_in_iff.mpr (by omega)) (fun v412 => ?_)
                              refine mv_aload_n d_Grouping_spread_174 rfl rfl ?_
                              obtain ⟨a414, q413, t_a414⟩ := tm_atR I408 t399 (k := 5) rfl
                              refine tr_getK q413 d_Grouping_spread_175 f_Grouping_15_7 ?_
                              refine mv_iload_n d_Grouping_spread_178 rfl rfl ?_
                              refine tr_lald I408 t_a414 (by decide) d_Grouping_spread_179 (vp_in_iff.mpr (by omega)) (fun v415 => ?_)
                              refine mv_lsub d_Grouping_spread_180 ?_
                              refine tr_lastK tm_okF I408 t_a411 (by decide) (Or.inl (by decide)) d_Grouping_spread_181 (vp_in_iff.mpr (by omega)) (fun M416 I417 K418 => ?_)
                              refine mv_aload_n d_Grouping_spread_182 rfl rfl ?_
                              refine tr_getK (k := 10) (K418 _ 7 10 _ (K409 _ 7 10 _ q400)) d_Grouping_spread_183 f_Grouping_31_7 ?_
                              refine mv_iload d_Grouping_spread_186 rfl ?_
                              refine mv_iload d_Grouping_spread_188 rfl ?_
                              refine tr_iastK tm_okF I417 t401 (by decide) (Or.inl (by decide)) d_Grouping_spread_190 (vp_in_iff.mpr (by omega)) (fun M419 I420 K421 => ?_)
                              refine mv_iinc (v := (i5_336 + 1)) (lv' := [(5, .int (i5_336 + 1)), (6, .int v341), (3, .long (if (v12 - v17) < v4 then v4 else (v12 - v17))), (0, .ref o0), (1, .int x1), (2, .int x2)]) d_Grouping_spread_191 rfl rfl (by decide) rfl ?_
                              refine mv_goto (tgt := 89) d_Grouping_spread_194 (by decide) ?_
                              refine mv_locals (lv' := [(5, .int (i5_336 + 1)), (3, .long (if (v12 - v17) < v4 then v4 else (v12 - v17))), (0, .ref o0), (1, .int x1), (2, .int x2)]) (by intro q hq; simp only [List.mem_cons, List.not_mem_nil, or_false] at hq; rcases hq with rfl | rfl | rfl | rfl | rfl <;> rfl) ?_
                              have b422 : (i5_336 + 1).toInt = i5_336.toInt + 1 := mz_addn 1 1 (by decide) (by have := mz_lo i5_336; omega) (by have := mz_hi i5_336; omega)
                              exact (ih336 (i5_336 + 1) T395 M419 n394 I420 t399 (by first | omega | decide) (by omega))
                            · refine mv_iload_n d_Grouping_spread_145 rfl rfl ?_
                              refine mv_iconst (v := 1) d_Grouping_spread_146 (by decide) ?_
                              refine mv_iadd d_Grouping_spread_147 ?_
                              refine mv_goto (tgt := 152) d_Grouping_spread_148 (by decide) ?_
                              have b423 : (x1 + 1).toInt = x1.toInt + 1 := mz_addn 1 1 (by decide) (by omega) (by omega)
                              obtain ⟨_, b430, -⟩ := I388.1 _ _ t362
                              refine mv_callV (kc' := 0) (ks' := 0) (As := [.int (x1 + 1), .int (x2 + 1)]) (st9 := [.int (x2 + 1), .int (x1 + 1), .ref o0]) d_Grouping_spread_152 lV_Grouping_77 b430 rfl (tc_Grouping_spread_q5 (d := d) (x9 := x9) (o0 := o0) (x1 := (x1 + 1)) (x2 := (x2 + 1)) t362 (by first | omega | decide) I388.start) rfl (Nat.le_of_ble_eq_true rfl) (Nat.le_of_ble_eq_true rfl) (Nat.le_of_ble_eq_true rfl) (hst := rfl) (fun b424r M425 n426 b424 => ?_)
                              obtain ⟨T427, J428, rfl⟩ := b424
                              have I429 := I388.call J428 (tm_sub (by decide)) (Or.inl rfl)
                              have t431 := J428.up t362
                              have q432 := J428.keep t362 (by decide) (K389 _ 7 10 _ q363)
                              have t433 := J428.up t364
                              have q434 := J428.keep t362 (by decide) (K389 _ 7 7 _ q385)
                              have t435 := J428.up t_a386
                              refine mv_aload_n d_Grouping_spread_155 rfl rfl ?_
                              obtain ⟨a437, q436, t_a437⟩ := tm_atR I429 t431 (k := 9) rfl
                              refine tr_getK q436 d_Grouping_spread_156 f_Grouping_28_7 ?_
                              refine mv_iload d_Grouping_spread_159 rfl ?_
                              refine mv_dup2_11 d_Grouping_spread_161 rfl rfl ?_
                              refine tr_iald I429 t_a437 (by decide) d_Grouping_spread_162 (vp_in_iff.mpr (by omega)) (fun v438 => ?_)
                              refine mv_iconst (v := 1) d_Grouping_spread_163 (by decide) ?_
                              refine mv_isub d_Grouping_spread_164 ?_
                              refine tr_iastK tm_okF I429 t_a437 (by decide) (Or.inl (by decide)) d_Grouping_spread_165 (vp_in_iff.mpr (by omega)) (fun M439 I440 K441 => ?_)
                              refine mv_aload_n d_Grouping_spread_166 rfl rfl ?_
                              obtain ⟨a443, q442, t_a443⟩ := tm_atR I440 t431 (k := 11) rfl
                              refine tr_getK q442 d_Grouping_spread_167 f_Grouping_34_7 ?_
                              refine mv_iload d_Grouping_spread_170 rfl ?_
                              refine mv_dup2_11 d_Grouping_spread_172 rfl rfl ?_
                              refine tr_lald I440 t_a443 (by decide) d_Grouping_spread_173 (vp_in_iff.mpr (by omega)) (fun v444 => ?_)
                              refine mv_aload_n d_Grouping_spread_174 rfl rfl ?_
                              obtain ⟨a446, q445, t_a446⟩ := tm_atR I440 t431 (k := 5) rfl
                              refine tr_getK q445 d_Grouping_spread_175 f_Grouping_15_7 ?_
                              refine mv_iload_n d_Grouping_spread_178 rfl rfl ?_
                              refine tr_lald I440 t_a446 (by decide) d_Grouping_spread_179 (vp_in_iff.mpr (by omega)) (fun v447 => ?_)
                              refine mv_lsub d_Grouping_spread_180 ?_
                              refine tr_lastK tm_okF I440 t_a443 (by decide) (Or.inl (by decide)) d_Grouping_spread_181 (vp_in_iff.mpr (by omega)) (fun M448 I449 K450 => ?_)
                              refine mv_aload_n d_Grouping_spread_182 rfl rfl ?_
                              refine tr_getK (k := 10) (K450 _ 7 10 _ (K441 _ 7 10 _ q432)) d_Grouping_spread_183 f_Grouping_31_7 ?_
                              refine mv_iload d_Grouping_spread_186 rfl ?_
                              refine mv_iload d_Grouping_spread_188 rfl ?_
                              refine tr_iastK tm_okF I449 t433 (by decide) (Or.inl (by decide)) d_Grouping_spread_190 (vp_in_iff.mpr (by omega)) (fun M451 I452 K453 => ?_)
                              refine mv_iinc (v := (i5_336 + 1)) (lv' := [(5, .int (i5_336 + 1)), (6, .int v341), (3, .long (if (v12 - v17) < v4 then v4 else (v12 - v17))), (0, .ref o0), (1, .int x1), (2, .int x2)]) d_Grouping_spread_191 rfl rfl (by decide) rfl ?_
                              refine mv_goto (tgt := 89) d_Grouping_spread_194 (by decide) ?_
                              refine mv_locals (lv' := [(5, .int (i5_336 + 1)), (3, .long (if (v12 - v17) < v4 then v4 else (v12 - v17))), (0, .ref o0), (1, .int x1), (2, .int x2)]) (by intro q hq; simp only [List.mem_cons, List.not_mem_nil, or_false] at hq; rcases hq with rfl | rfl | rfl | rfl | rfl <;> rfl) ?_
                              have b454 : (i5_336 + 1).toInt = i5_336.toInt + 1 := mz_addn 1 1 (by decide) (by have := mz_lo i5_336; omega) (by have := mz_hi i5_336; omega)
                              exact (ih336 (i5_336 + 1) T427 M451 n426 I452 t431 (by first | omega | decide) (by omega))
                  exact mv_less (Nat.zero_le _) (Nat.zero_le _) (L89_336 4294967296 0 T8 M6 n7 I10 t13 (by first | omega | decide) (by show (2147483647 - (0 : Int) : Int) < _; decide))
                · refine mv_aload_n d_Grouping_spread_79 rfl rfl ?_
                  refine mv_lload_n d_Grouping_spread_80 rfl rfl ?_
                  refine mv_iload_n d_Grouping_spread_81 rfl rfl ?_
                  obtain ⟨_, b461, -⟩ := I10.1 _ _ t13
                  refine mv_callV (kc' := 0) (ks' := 0) (As := [.long (if (v12 - v17) < v4 then v4 else (v12 - v17)), .int x2]) (st9 := [.int x2, .long (if (v12 - v17) < v4 then v4 else (v12 - v17)), .ref o0]) d_Grouping_spread_82 lV_Grouping_80 b461 rfl (tc_Grouping_keepAsBest (d := (d + 6)) (x9 := x9) (o0 := o0) (x1 := (if (v12 - v17) < v4 then v4 else (v12 - v17))) (x2 := x2) t13 I10.start) rfl (Nat.le_of_ble_eq_true rfl) (Nat.le_of_ble_eq_true rfl) (Nat.le_of_ble_eq_true rfl) (hst := rfl) (fun b455r M456 n457 b455 => ?_)
                  obtain ⟨T458, J459, rfl⟩ := b455
                  have I460 := I10.call J459 (tm_sub (by decide)) (Or.inl rfl)
                  have t462 := J459.up t13
                  have q463 := J459.keep t13 (by decide) q14
                  have q464 := J459.keep t13 (by decide) q15
                  have t465 := J459.up t_a16
                  have q466 := J459.keep t13 (by decide) q320
                  exact mv_vret d_Grouping_spread_85 rfl ⟨_, I460, rfl⟩
            · exact mv_vret d_Grouping_spread_64 rfl ⟨_, I10, rfl⟩
    · exact mv_vret d_Grouping_spread_10 rfl ⟨_, I0, rfl⟩
