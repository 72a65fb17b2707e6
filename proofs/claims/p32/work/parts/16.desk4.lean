def w_Grouping_spread_q7 : List Nat := [700, 703, 757, 758, 759, 760, 761]
theorem tc_Grouping_spread_q7 {g : mj_G} {l : Launch} {d : Nat} {T0 : tm_H} {M0 : mj_M} {n0 x9 : Nat} {o0 : Nat} {x1 : Int32} {x2 : Int32} (h_o0 : T0 o0 = some (0, 7, 0)) (hp : 2 ≤ x1.toInt) (I0 : tm_I tm_FT (tm_in w_Grouping_spread_q7) x9 T0 M0 n0 T0 M0 n0) : mj_Met g l kY_Grouping_spread (d + 8) [.ref o0, .int x1, .int x2] M0 n0 0 0 (tm_Q tm_FT (tm_in w_Grouping_spread_q7) x9 T0 M0 n0 (fun r _ _ => r = none)) := tg_Grouping_spread (E := 5) (K := 2) (K1 := 3) (by decide) @tc_Grouping_spread_q6 h_o0 hp I0
def w_Grouping_spread_q8 : List Nat := [700, 703, 757, 758, 759, 760, 761]
theorem tc_Grouping_spread_q8 {g : mj_G} {l : Launch} {d : Nat} {T0 : tm_H} {M0 : mj_M} {n0 x9 : Nat} {o0 : Nat} {x1 : Int32} {x2 : Int32} (h_o0 : T0 o0 = some (0, 7, 0)) (hp : 1 ≤ x1.toInt) (I0 : tm_I tm_FT (tm_in w_Grouping_spread_q8) x9 T0 M0 n0 T0 M0 n0) : mj_Met g l kY_Grouping_spread (d + 9) [.ref o0, .int x1, .int x2] M0 n0 0 0 (tm_Q tm_FT (tm_in w_Grouping_spread_q8) x9 T0 M0 n0 (fun r _ _ => r = none)) := tg_Grouping_spread (E := 6) (K := 1) (K1 := 2) (by decide) @tc_Grouping_spread_q7 h_o0 hp I0
def w_Grouping_spread_q9 : List Nat := [700, 703, 757, 758, 759, 760, 761]
theorem tc_Grouping_spread_q9 {g : mj_G} {l : Launch} {d : Nat} {T0 : tm_H} {M0 : mj_M} {n0 x9 : Nat} {o0 : Nat} {x1 : Int32} {x2 : Int32} (h_o0 : T0 o0 = some (0, 7, 0)) (hp : 0 ≤ x1.toInt) (I0 : tm_I tm_FT (tm_in w_Grouping_spread_q9) x9 T0 M0 n0 T0 M0 n0) : mj_Met g l kY_Grouping_spread (d + 10) [.ref o0, .int x1, .int x2] M0 n0 0 0 (tm_Q tm_FT (tm_in w_Grouping_spread_q9) x9 T0 M0 n0 (fun r _ _ => r = none)) := tg_Grouping_spread (E := 7) (K := 0) (K1 := 1) (by decide) @tc_Grouping_spread_q8 h_o0 hp I0
theorem d_Grouping_search_84 : decode kY_Grouping_search.2.1 84 = .ok (.return_, 1) := by decide +kernel
theorem d_Grouping_search_21 : decode kY_Grouping_search.2.1 21 = .ok (.iload 5, 2) := by decide +kernel
theorem d_Grouping_search_23 : decode kY_Grouping_search.2.1 23 = .ok (.aload_n 0, 1) := by decide +kernel
theorem d_Grouping_search_24 : decode kY_Grouping_search.2.1 24 = .ok (.getfield 44, 3) := by decide +kernel
theorem d_Grouping_search_27 : decode kY_Grouping_search.2.1 27 = .ok (.if_icmp .ge 28, 3) := by decide +kernel
theorem d_Grouping_search_55 : decode kY_Grouping_search.2.1 55 = .ok (.aload_n 0, 1) := by decide +kernel
theorem d_Grouping_search_56 : decode kY_Grouping_search.2.1 56 = .ok (.getfield 37, 3) := by decide +kernel
theorem d_Grouping_search_59 : decode kY_Grouping_search.2.1 59 = .ok (.iload 5, 2) := by decide +kernel
theorem d_Grouping_search_61 : decode kY_Grouping_search.2.1 61 = .ok (.lload_n 3, 1) := by decide +kernel
theorem d_Grouping_search_62 : decode kY_Grouping_search.2.1 62 = .ok (.lastore, 1) := by decide +kernel
theorem d_Grouping_search_63 : decode kY_Grouping_search.2.1 63 = .ok (.iinc 5 (-1), 3) := by decide +kernel
theorem d_Grouping_search_66 : decode kY_Grouping_search.2.1 66 = .ok (.goto (-50), 3) := by decide +kernel
theorem d_Grouping_search_30 : decode kY_Grouping_search.2.1 30 = .ok (.lload_n 1, 1) := by decide +kernel
theorem d_Grouping_search_31 : decode kY_Grouping_search.2.1 31 = .ok (.aload_n 0, 1) := by decide +kernel
theorem d_Grouping_search_32 : decode kY_Grouping_search.2.1 32 = .ok (.getfield 15, 3) := by decide +kernel
theorem d_Grouping_search_35 : decode kY_Grouping_search.2.1 35 = .ok (.iload 5, 2) := by decide +kernel
theorem d_Grouping_search_37 : decode kY_Grouping_search.2.1 37 = .ok (.laload, 1) := by decide +kernel
theorem d_Grouping_search_38 : decode kY_Grouping_search.2.1 38 = .ok (.ladd, 1) := by decide +kernel
theorem d_Grouping_search_39 : decode kY_Grouping_search.2.1 39 = .ok (.lstore_n 1, 1) := by decide +kernel
theorem d_Grouping_search_40 : decode kY_Grouping_search.2.1 40 = .ok (.lload_n 3, 1) := by decide +kernel
theorem d_Grouping_search_41 : decode kY_Grouping_search.2.1 41 = .ok (.lconst 0, 1) := by decide +kernel
theorem d_Grouping_search_42 : decode kY_Grouping_search.2.1 42 = .ok (.aload_n 0, 1) := by decide +kernel
theorem d_Grouping_search_43 : decode kY_Grouping_search.2.1 43 = .ok (.getfield 15, 3) := by decide +kernel
theorem d_Grouping_search_46 : decode kY_Grouping_search.2.1 46 = .ok (.iload 5, 2) := by decide +kernel
theorem d_Grouping_search_48 : decode kY_Grouping_search.2.1 48 = .ok (.laload, 1) := by decide +kernel
theorem d_Grouping_search_49 : decode kY_Grouping_search.2.1 49 = .ok (.lneg, 1) := by decide +kernel
theorem d_Grouping_search_50 : decode kY_Grouping_search.2.1 50 = .ok (.invokestatic 68, 3) := by decide +kernel
theorem d_Grouping_search_53 : decode kY_Grouping_search.2.1 53 = .ok (.ladd, 1) := by decide +kernel
theorem d_Grouping_search_54 : decode kY_Grouping_search.2.1 54 = .ok (.lstore_n 3, 1) := by decide +kernel
def w_Grouping_search : List Nat := [700, 703, 713, 757, 758, 759, 760, 761, 762]
theorem tc_Grouping_search {g : mj_G} {l : Launch} {d : Nat} {T0 : tm_H} {M0 : mj_M} {n0 x9 : Nat} {o0 : Nat} (h_o0 : T0 o0 = some (0, 7, 0)) (I0 : tm_I tm_FT (tm_in w_Grouping_search) x9 T0 M0 n0 T0 M0 n0) : mj_Met g l kY_Grouping_search (d + 11) [.ref o0] M0 n0 0 0 (tm_Q tm_FT (tm_in w_Grouping_search) x9 T0 M0 n0 (fun r _ _ => r = none)) := by
  refine mj_enter (by decide) (Nat.le_of_ble_eq_true rfl) ?_
  refine mv_lconst (v := 0) d_Grouping_search_0 (by decide) ?_
  refine mv_lstore_n (lv' := [(1, .long 0), (0, .ref o0)]) d_Grouping_search_1 rfl (by decide) rfl ?_
  refine mv_lconst (v := 0) d_Grouping_search_2 (by decide) ?_
  refine mv_lstore_n (lv' := [(3, .long 0), (1, .long 0), (0, .ref o0)]) d_Grouping_search_3 rfl (by decide) rfl ?_
  refine mv_aload_n d_Grouping_search_4 rfl rfl ?_
  obtain ⟨a2, q1, t_a2⟩ := tm_atR I0 h_o0 (k := 12) rfl
  refine tr_getK q1 d_Grouping_search_5 f_Grouping_37_7 ?_
  refine mv_bipush (v := 8) d_Grouping_search_8 (by decide) ?_
  refine mv_lconst (v := 0) d_Grouping_search_10 (by decide) ?_
  refine tr_lastK tm_okF I0 t_a2 (by decide) (Or.inl (by decide)) d_Grouping_search_11 (by unfold vp_in; decide) (fun M3 I4 K5 => ?_)
  refine mv_bipush (v := 7) d_Grouping_search_12 (by decide) ?_
  refine mv_istore (lv' := [(5, .int 7), (3, .long 0), (1, .long 0), (0, .ref o0)]) d_Grouping_search_14 (by decide) rfl ?_
  have L16_6 : ∀ (k : Nat) (i5_6 : Int32) (l3_6 : Int64) (l1_6 : Int64) (T_6 : tm_H) (M_6 : mj_M) (n_6 : Nat), tm_I tm_FT (tm_in w_Grouping_search) x9 T0 M0 n0 T_6 M_6 n_6 → T_6 o0 = some (0, 7, 0) → i5_6.toInt ≤ 7 → -1 ≤ i5_6.toInt → i5_6.toInt + 1 < (k : Int) → mj_V g l kY_Grouping_search (d + 11) 16 [(5, .int i5_6), (3, .long l3_6), (1, .long l1_6), (0, .ref o0)] [] M_6 n_6 0 0 (tm_Q tm_FT (tm_in w_Grouping_search) x9 T0 M0 n0 (fun r _ _ => r = none)) := by
    intro k6
    induction k6 with
    | zero =>
      intro i5_6 l3_6 l1_6 T_6 M_6 n_6 I_6 h_q0_6 iv0_6 iv1_6 hk6
      have := mz_hi i5_6
      exfalso; omega
    | succ k6 ih6 =>
      intro i5_6 l3_6 l1_6 T_6 M_6 n_6 I_6 h_q0_6 iv0_6 iv1_6 hk6
      refine mv_iload d_Grouping_search_16 rfl ?_
      have := mz_hi i5_6
      refine mv_if_ltZ (tgt := 69) (a := i5_6.toInt) d_Grouping_search_18 (by decide) rfl (fun b7 => ?_) (fun b7 => ?_)
      · refine mv_aload_n d_Grouping_search_69 rfl rfl ?_
        refine mv_lconst (v := 0) d_Grouping_search_70 (by decide) ?_
        refine mv_lload_n d_Grouping_search_71 rfl rfl ?_
        refine mv_mmax_long (v := (if l1_6 < 0 then 0 else l1_6)) d_Grouping_search_72 (mj_in1 (List.mem_of_getElem? (i := 1243) (by decide +kernel)) rfl) (Nat.le_of_ble_eq_true rfl) rfl ?_
        refine tr_putK tm_okF I_6 h_q0_6 (k := 13) rfl ⟨_, rfl⟩ (Or.inl (by decide)) d_Grouping_search_75 p_Grouping_74_7 rfl rfl (fun M8 I9 q10 K11 => ?_)
        refine mv_aload_n d_Grouping_search_78 rfl rfl ?_
        refine mv_iconst (v := 0) d_Grouping_search_79 (by decide) ?_
        refine mv_iconst (v := 0) d_Grouping_search_80 (by decide) ?_
        obtain ⟨_, b18, -⟩ := I9.1 _ _ h_q0_6
        refine mv_callV (kc' := 0) (ks' := 0) (As := [.int 0, .int 0]) (st9 := [.int 0, .int 0, .ref o0]) d_Grouping_search_81 lV_Grouping_77 b18 rfl (tc_Grouping_spread_q9 (d := d) (x9 := x9) (o0 := o0) (x1 := 0) (x2 := 0) h_q0_6 (by first | omega | decide) I9.start) rfl (Nat.le_of_ble_eq_true rfl) (Nat.le_of_ble_eq_true rfl) (Nat.le_of_ble_eq_true rfl) (hst := rfl) (fun b12r M13 n14 b12 => ?_)
        obtain ⟨T15, J16, rfl⟩ := b12
        have I17 := I9.call J16 (tm_sub (by decide)) (Or.inl rfl)
        have t19 := J16.up h_q0_6
        have q20 := J16.keep h_q0_6 (by decide) q10
        exact mv_vret d_Grouping_search_84 rfl ⟨_, I17, rfl⟩
      · refine mv_iload d_Grouping_search_21 rfl ?_
        refine mv_aload_n d_Grouping_search_23 rfl rfl ?_
        obtain ⟨v22, q21⟩ := tm_atI I_6 h_q0_6 (k := 2) rfl
        refine tr_getK q21 d_Grouping_search_24 f_Grouping_44_7 ?_
        have := mz_hi i5_6
        have := mz_hi v22
        refine mv_icmp_geZ (tgt := 55) (a := i5_6.toInt) (b := v22.toInt) d_Grouping_search_27 (by decide) rfl rfl (fun b23 => ?_) (fun b23 => ?_)
        · refine mv_aload_n d_Grouping_search_55 rfl rfl ?_
          obtain ⟨a25, q24, t_a25⟩ := tm_atR I_6 h_q0_6 (k := 12) rfl
          refine tr_getK q24 d_Grouping_search_56 f_Grouping_37_7 ?_
          refine mv_iload d_Grouping_search_59 rfl ?_
          refine mv_lload_n d_Grouping_search_61 rfl rfl ?_
          refine tr_lastK tm_okF I_6 t_a25 (by decide) (Or.inl (by decide)) d_Grouping_search_62 (vp_in_iff.mpr (by omega)) (fun M26 I27 K28 => ?_)
          refine mv_iinc (v := (i5_6 + (-1))) (lv' := [(5, .int (i5_6 + (-1))), (3, .long l3_6), (1, .long l1_6), (0, .ref o0)]) d_Grouping_search_63 rfl rfl (by decide) rfl ?_
          refine mv_goto (tgt := 16) d_Grouping_search_66 (by decide) ?_
          have b29 : (i5_6 + (-1)).toInt = i5_6.toInt + (-1) := mz_addn (-1) (-1) (by decide) (by omega) (by have := mz_hi i5_6; omega)
          exact (ih6 (i5_6 + (-1)) l3_6 l1_6 T_6 M26 n_6 I27 h_q0_6 (by first | omega | decide) (by first | omega | decide) (by omega))
        · refine mv_lload_n d_Grouping_search_30 rfl rfl ?_
          refine mv_aload_n d_Grouping_search_31 rfl rfl ?_
          obtain ⟨a31, q30, t_a31⟩ := tm_atR I_6 h_q0_6 (k := 5) rfl
          refine tr_getK q30 d_Grouping_search_32 f_Grouping_15_7 ?_
          refine mv_iload d_Grouping_search_35 rfl ?_
          refine tr_lald I_6 t_a31 (by decide) d_Grouping_search_37 (vp_in_iff.mpr (by omega)) (fun v32 => ?_)
          refine mv_ladd d_Grouping_search_38 ?_
          refine mv_lstore_n (lv' := [(1, .long (l1_6 + v32)), (5, .int i5_6), (3, .long l3_6), (0, .ref o0)]) d_Grouping_search_39 rfl (by decide) rfl ?_
          refine mv_lload_n d_Grouping_search_40 rfl rfl ?_
          refine mv_lconst (v := 0) d_Grouping_search_41 (by decide) ?_
          refine mv_aload_n d_Grouping_search_42 rfl rfl ?_
          refine tr_getK (k := 5) q30 d_Grouping_search_43 f_Grouping_15_7 ?_
          refine mv_iload d_Grouping_search_46 rfl ?_
          refine tr_lald I_6 t_a31 (by decide) d_Grouping_search_48 (vp_in_iff.mpr (by omega)) (fun v33 => ?_)
          refine mv_lneg d_Grouping_search_49 ?_
          refine mv_mmax_long (v := (if (-v33) < 0 then 0 else (-v33))) d_Grouping_search_50 (mj_in1 (List.mem_of_getElem? (i := 1243) (by decide +kernel)) rfl) (Nat.le_of_ble_eq_true rfl) rfl ?_
          refine mv_ladd d_Grouping_search_53 ?_
          refine mv_lstore_n (lv' := [(3, .long (l3_6 + (if (-v33) < 0 then 0 else (-v33)))), (1, .long (l1_6 + v32)), (5, .int i5_6), (0, .ref o0)]) d_Grouping_search_54 rfl (by decide) rfl ?_
          refine mv_aload_n d_Grouping_search_55 rfl rfl ?_
          obtain ⟨a35, q34, t_a35⟩ := tm_atR I_6 h_q0_6 (k := 12) rfl
          refine tr_getK q34 d_Grouping_search_56 f_Grouping_37_7 ?_
          refine mv_iload d_Grouping_search_59 rfl ?_
          refine mv_lload_n d_Grouping_search_61 rfl rfl ?_
          refine tr_lastK tm_okF I_6 t_a35 (by decide) (Or.inl (by decide)) d_Grouping_search_62 (vp_in_iff.mpr (by omega)) (fun M36 I37 K38 => ?_)
          refine mv_iinc (v := (i5_6 + (-1))) (lv' := [(5, .int (i5_6 + (-1))), (3, .long (l3_6 + (if (-v33) < 0 then 0 else (-v33)))), (1, .long (l1_6 + v32)), (0, .ref o0)]) d_Grouping_search_63 rfl rfl (by decide) rfl ?_
          refine mv_goto (tgt := 16) d_Grouping_search_66 (by decide) ?_
          have b39 : (i5_6 + (-1)).toInt = i5_6.toInt + (-1) := mz_addn (-1) (-1) (by decide) (by omega) (by have := mz_hi i5_6; omega)
          exact (ih6 (i5_6 + (-1)) (l3_6 + (if (-v33) < 0 then 0 else (-v33))) (l1_6 + v32) T_6 M36 n_6 I37 h_q0_6 (by first | omega | decide) (by first | omega | decide) (by omega))
  exact mv_less (Nat.zero_le _) (Nat.zero_le _) (L16_6 4294967296 7 0 0 T0 M3 n0 I4 h_o0 (by first | omega | decide) (by first | omega | decide) (by show ((7 : Int) + 1 : Int) < _; decide))
theorem lV_TrustDesk_480 : mj_lV "TrustDesk" 480 kY_Grouping_search 0 := ⟨⟨(mj_in1 (List.mem_of_getElem? (i := 1239) (by decide +kernel)) rfl), (mj_in1 (List.mem_of_getElem? (i := 5) (by decide +kernel)) rfl), (mj_in1 (List.mem_of_getElem? (i := 1242) (by decide +kernel)) rfl), by decide, rfl, by decide⟩, (mj_in1 (List.mem_of_getElem? (i := 1240) (by decide +kernel)) rfl), (mj_in1 (List.mem_of_getElem? (i := 1241) (by decide +kernel)) rfl)⟩
theorem d_TrustDesk_group_19 : decode kY_TrustDesk_group.2.1 19 = .ok (.aload_n 0, 1) := by decide +kernel
theorem d_TrustDesk_group_20 : decode kY_TrustDesk_group.2.1 20 = .ok (.getfield 33, 3) := by decide +kernel
theorem d_TrustDesk_group_23 : decode kY_TrustDesk_group.2.1 23 = .ok (.getfield 483, 3) := by decide +kernel
theorem f_TrustDesk_483_7 : mj_fl "TrustDesk" 483 7 0 := ⟨kR_Grouping, kF_Grouping, 14, "TrustDesk$Grouping", rfl, kg_7, by decide, (mj_in1 (List.mem_of_getElem? (i := 162) (by decide +kernel)) rfl), Or.inl rfl⟩
theorem d_TrustDesk_group_26 : decode kY_TrustDesk_group.2.1 26 = .ok (.lreturn, 1) := by decide +kernel
theorem d_TrustDesk_group_8 : decode kY_TrustDesk_group.2.1 8 = .ok (.ldc2_w 463, 3) := by decide +kernel
theorem d_TrustDesk_group_11 : decode kY_TrustDesk_group.2.1 11 = .ok (.lreturn, 1) := by decide +kernel
def w_TrustDesk_group : List Nat := [700, 701, 702, 703, 713, 754, 755, 756, 757, 758, 759, 760, 761, 762, 1001, 1003, 1004, 1050, 1052]
theorem tc_TrustDesk_group {g : mj_G} {l : Launch} {d : Nat} {T0 : tm_H} {M0 : mj_M} {n0 x9 : Nat} {o0 : Nat} {x1 : Int32} (h_o0 : T0 o0 = some (0, 12, 0)) (I0 : tm_I tm_FT (tm_in w_TrustDesk_group) x9 T0 M0 n0 T0 M0 n0) : mj_Met g l kY_TrustDesk_group (d + 12) [.ref o0, .int x1] M0 n0 0 0 (tm_Q tm_FT (tm_in w_TrustDesk_group) x9 T0 M0 n0 (fun r _ _ => ∃ v : Int64, r = some (.long v))) := by
  refine mj_enter (by decide) (Nat.le_of_ble_eq_true rfl) ?_
  refine mv_aload_n d_TrustDesk_group_0 rfl rfl ?_
  refine mv_iload_n d_TrustDesk_group_1 rfl rfl ?_
  obtain ⟨_, b7, -⟩ := I0.1 _ _ h_o0
  refine mv_callV (kc' := 0) (ks' := 0) (As := [.int x1]) (st9 := [.int x1, .ref o0]) d_TrustDesk_group_2 lV_TrustDesk_477 b7 rfl (tc_TrustDesk_gather (d := (d + 6)) (x9 := x9) (o0 := o0) (x1 := x1) h_o0 I0.start) rfl (Nat.le_of_ble_eq_true rfl) (Nat.le_of_ble_eq_true rfl) (Nat.le_of_ble_eq_true rfl) (hst := rfl) (fun b1r M2 n3 b1 => ?_)
  obtain ⟨T4, J5, v8, rfl, b9, b10⟩ := b1
  have I6 := I0.call J5 (tm_sub (by decide)) (Or.inl rfl)
  have t11 := J5.up h_o0
  have := mz_hi v8
  refine mv_if_neZ (tgt := 12) (a := v8.toInt) d_TrustDesk_group_5 (by decide) rfl (fun b12 => ?_) (fun b12 => ?_)
  · refine mv_aload_n d_TrustDesk_group_12 rfl rfl ?_
    obtain ⟨a14, q13, t_a14⟩ := tm_atR I6 t11 (k := 3) rfl
    refine tr_getK q13 d_TrustDesk_group_13 f_TrustDesk_33_12 ?_
    obtain ⟨_, b21, -⟩ := I6.1 _ _ t_a14
    refine mv_callV (kc' := 0) (ks' := 0) (As := []) (st9 := [.ref a14]) d_TrustDesk_group_16 lV_TrustDesk_480 b21 rfl (tc_Grouping_search (d := d) (x9 := x9) (o0 := a14) t_a14 I6.start) rfl (Nat.le_of_ble_eq_true rfl) (Nat.le_of_ble_eq_true rfl) (Nat.le_of_ble_eq_true rfl) (hst := rfl) (fun b15r M16 n17 b15 => ?_)
    obtain ⟨T18, J19, rfl⟩ := b15
    have I20 := I6.call J19 (tm_sub (by decide)) (Or.inl rfl)
    have t22 := J19.up t11
    have q23 := J19.keep t11 (by decide) q13
    have t24 := J19.up t_a14
    refine mv_aload_n d_TrustDesk_group_19 rfl rfl ?_
    refine tr_getK (k := 3) q23 d_TrustDesk_group_20 f_TrustDesk_33_12 ?_
    obtain ⟨v26, q25⟩ := tm_atL I20 t24 (k := 0) rfl
    refine tr_getK q25 d_TrustDesk_group_23 f_TrustDesk_483_7 ?_
    exact mv_lret d_TrustDesk_group_26 rfl ⟨_, I20, _, rfl⟩
  · refine mv_ldc2 d_TrustDesk_group_8 k_TrustDesk_463 ?_
    exact mv_lret d_TrustDesk_group_11 rfl ⟨_, I6, _, rfl⟩
abbrev kY_TrustDesk_grouped : mj_Y := (⟨"TrustDesk", "grouped", "(II)I"⟩, prog_1_method_50_code, 4, (Option.some Jvm.ClassFile.FieldType.int))
theorem d_TrustDesk_grouped_0 : decode kY_TrustDesk_grouped.2.1 0 = .ok (.aload_n 0, 1) := by decide +kernel
theorem d_TrustDesk_grouped_1 : decode kY_TrustDesk_grouped.2.1 1 = .ok (.iload_n 2, 1) := by decide +kernel
theorem d_TrustDesk_grouped_2 : decode kY_TrustDesk_grouped.2.1 2 = .ok (.invokevirtual 257, 3) := by decide +kernel
theorem d_TrustDesk_grouped_5 : decode kY_TrustDesk_grouped.2.1 5 = .ok (.ifnull 19, 3) := by decide +kernel
theorem d_TrustDesk_grouped_24 : decode kY_TrustDesk_grouped.2.1 24 = .ok (.iconst (-1), 1) := by decide +kernel
theorem d_TrustDesk_grouped_25 : decode kY_TrustDesk_grouped.2.1 25 = .ok (.ireturn, 1) := by decide +kernel
theorem d_TrustDesk_grouped_8 : decode kY_TrustDesk_grouped.2.1 8 = .ok (.iload_n 1, 1) := by decide +kernel
theorem d_TrustDesk_grouped_9 : decode kY_TrustDesk_grouped.2.1 9 = .ok (.iload_n 2, 1) := by decide +kernel
theorem d_TrustDesk_grouped_10 : decode kY_TrustDesk_grouped.2.1 10 = .ok (.ishr, 1) := by decide +kernel
theorem d_TrustDesk_grouped_11 : decode kY_TrustDesk_grouped.2.1 11 = .ok (.iconst 1, 1) := by decide +kernel
theorem d_TrustDesk_grouped_12 : decode kY_TrustDesk_grouped.2.1 12 = .ok (.iand, 1) := by decide +kernel
theorem d_TrustDesk_grouped_13 : decode kY_TrustDesk_grouped.2.1 13 = .ok (.ifCond .eq 11, 3) := by decide +kernel
theorem d_TrustDesk_grouped_16 : decode kY_TrustDesk_grouped.2.1 16 = .ok (.aload_n 0, 1) := by decide +kernel
theorem d_TrustDesk_grouped_17 : decode kY_TrustDesk_grouped.2.1 17 = .ok (.iload_n 1, 1) := by decide +kernel
theorem d_TrustDesk_grouped_18 : decode kY_TrustDesk_grouped.2.1 18 = .ok (.invokevirtual 477, 3) := by decide +kernel
theorem d_TrustDesk_grouped_21 : decode kY_TrustDesk_grouped.2.1 21 = .ok (.ifCond .ne 5, 3) := by decide +kernel
theorem d_TrustDesk_grouped_26 : decode kY_TrustDesk_grouped.2.1 26 = .ok (.aload_n 0, 1) := by decide +kernel
theorem d_TrustDesk_grouped_27 : decode kY_TrustDesk_grouped.2.1 27 = .ok (.getfield 33, 3) := by decide +kernel
theorem d_TrustDesk_grouped_30 : decode kY_TrustDesk_grouped.2.1 30 = .ok (.invokevirtual 480, 3) := by decide +kernel
theorem d_TrustDesk_grouped_33 : decode kY_TrustDesk_grouped.2.1 33 = .ok (.iload_n 1, 1) := by decide +kernel
theorem d_TrustDesk_grouped_34 : decode kY_TrustDesk_grouped.2.1 34 = .ok (.iconst 1, 1) := by decide +kernel
theorem d_TrustDesk_grouped_35 : decode kY_TrustDesk_grouped.2.1 35 = .ok (.iload_n 2, 1) := by decide +kernel
theorem d_TrustDesk_grouped_36 : decode kY_TrustDesk_grouped.2.1 36 = .ok (.ishl, 1) := by decide +kernel
theorem d_TrustDesk_grouped_37 : decode kY_TrustDesk_grouped.2.1 37 = .ok (.iconst 1, 1) := by decide +kernel
theorem d_TrustDesk_grouped_38 : decode kY_TrustDesk_grouped.2.1 38 = .ok (.isub, 1) := by decide +kernel
theorem d_TrustDesk_grouped_39 : decode kY_TrustDesk_grouped.2.1 39 = .ok (.iand, 1) := by decide +kernel
theorem d_TrustDesk_grouped_40 : decode kY_TrustDesk_grouped.2.1 40 = .ok (.invokestatic 337, 3) := by decide +kernel
theorem d_TrustDesk_grouped_43 : decode kY_TrustDesk_grouped.2.1 43 = .ok (.istore_n 3, 1) := by decide +kernel
theorem d_TrustDesk_grouped_44 : decode kY_TrustDesk_grouped.2.1 44 = .ok (.aload_n 0, 1) := by decide +kernel
theorem d_TrustDesk_grouped_45 : decode kY_TrustDesk_grouped.2.1 45 = .ok (.getfield 33, 3) := by decide +kernel
theorem d_TrustDesk_grouped_48 : decode kY_TrustDesk_grouped.2.1 48 = .ok (.iload_n 3, 1) := by decide +kernel
theorem d_TrustDesk_grouped_49 : decode kY_TrustDesk_grouped.2.1 49 = .ok (.invokevirtual 486, 3) := by decide +kernel
abbrev kY_Grouping_bestGroupOf : mj_Y := (⟨"TrustDesk$Grouping", "bestGroupOf", "(I)I"⟩, prog_8_method_4_code, 2, (Option.some Jvm.ClassFile.FieldType.int))
theorem d_Grouping_bestGroupOf_0 : decode kY_Grouping_bestGroupOf.2.1 0 = .ok (.iload_n 1, 1) := by decide +kernel
theorem d_Grouping_bestGroupOf_1 : decode kY_Grouping_bestGroupOf.2.1 1 = .ok (.ifCond .lt 26, 3) := by decide +kernel
theorem d_Grouping_bestGroupOf_27 : decode kY_Grouping_bestGroupOf.2.1 27 = .ok (.iconst (-1), 1) := by decide +kernel
theorem d_Grouping_bestGroupOf_28 : decode kY_Grouping_bestGroupOf.2.1 28 = .ok (.ireturn, 1) := by decide +kernel
theorem d_Grouping_bestGroupOf_4 : decode kY_Grouping_bestGroupOf.2.1 4 = .ok (.iload_n 1, 1) := by decide +kernel
theorem d_Grouping_bestGroupOf_5 : decode kY_Grouping_bestGroupOf.2.1 5 = .ok (.aload_n 0, 1) := by decide +kernel
theorem d_Grouping_bestGroupOf_6 : decode kY_Grouping_bestGroupOf.2.1 6 = .ok (.getfield 44, 3) := by decide +kernel
theorem d_Grouping_bestGroupOf_9 : decode kY_Grouping_bestGroupOf.2.1 9 = .ok (.if_icmp .ge 18, 3) := by decide +kernel
theorem d_Grouping_bestGroupOf_12 : decode kY_Grouping_bestGroupOf.2.1 12 = .ok (.iload_n 1, 1) := by decide +kernel
theorem d_Grouping_bestGroupOf_13 : decode kY_Grouping_bestGroupOf.2.1 13 = .ok (.bipush 8, 2) := by decide +kernel
theorem d_Grouping_bestGroupOf_15 : decode kY_Grouping_bestGroupOf.2.1 15 = .ok (.if_icmp .ge 12, 3) := by decide +kernel
theorem d_Grouping_bestGroupOf_18 : decode kY_Grouping_bestGroupOf.2.1 18 = .ok (.aload_n 0, 1) := by decide +kernel
theorem d_Grouping_bestGroupOf_19 : decode kY_Grouping_bestGroupOf.2.1 19 = .ok (.getfield 25, 3) := by decide +kernel
theorem d_Grouping_bestGroupOf_22 : decode kY_Grouping_bestGroupOf.2.1 22 = .ok (.iload_n 1, 1) := by decide +kernel
theorem d_Grouping_bestGroupOf_23 : decode kY_Grouping_bestGroupOf.2.1 23 = .ok (.iaload, 1) := by decide +kernel
theorem d_Grouping_bestGroupOf_24 : decode kY_Grouping_bestGroupOf.2.1 24 = .ok (.goto 4, 3) := by decide +kernel
def w_Grouping_bestGroupOf : List Nat := []
theorem tc_Grouping_bestGroupOf {g : mj_G} {l : Launch} {d : Nat} {T0 : tm_H} {M0 : mj_M} {n0 x9 : Nat} {o0 : Nat} {x1 : Int32} (h_o0 : T0 o0 = some (0, 7, 0)) (I0 : tm_I tm_FT (tm_in w_Grouping_bestGroupOf) x9 T0 M0 n0 T0 M0 n0) : mj_Met g l kY_Grouping_bestGroupOf d [.ref o0, .int x1] M0 n0 0 0 (tm_Q tm_FT (tm_in w_Grouping_bestGroupOf) x9 T0 M0 n0 (fun r _ _ => ∃ v : Int32, r = some (.int v))) := by
  refine mj_enter (by decide) (Nat.le_of_ble_eq_true rfl) ?_
  refine mv_iload_n d_Grouping_bestGroupOf_0 rfl rfl ?_
  have := mz_hi x1
  refine mv_if_ltZ (tgt := 27) (a := x1.toInt) d_Grouping_bestGroupOf_1 (by decide) rfl (fun b1 => ?_) (fun b1 => ?_)
  · refine mv_iconst (v := (-1)) d_Grouping_bestGroupOf_27 (by decide) ?_
    exact mv_iret d_Grouping_bestGroupOf_28 rfl (by first | rfl | decide) ⟨_, I0, _, rfl⟩
  · refine mv_iload_n d_Grouping_bestGroupOf_4 rfl rfl ?_
    refine mv_aload_n d_Grouping_bestGroupOf_5 rfl rfl ?_
    obtain ⟨v3, q2⟩ := tm_atI I0 h_o0 (k := 2) rfl
    refine tr_getK q2 d_Grouping_bestGroupOf_6 f_Grouping_44_7 ?_
    have := mz_hi x1
    have := mz_hi v3
    refine mv_icmp_geZ (tgt := 27) (a := x1.toInt) (b := v3.toInt) d_Grouping_bestGroupOf_9 (by decide) rfl rfl (fun b4 => ?_) (fun b4 => ?_)
    · refine mv_iconst (v := (-1)) d_Grouping_bestGroupOf_27 (by decide) ?_
      exact mv_iret d_Grouping_bestGroupOf_28 rfl (by first | rfl | decide) ⟨_, I0, _, rfl⟩
    · refine mv_iload_n d_Grouping_bestGroupOf_12 rfl rfl ?_
      refine mv_bipush (v := 8) d_Grouping_bestGroupOf_13 (by decide) ?_
      have := mz_hi x1
      refine mv_icmp_geZ (tgt := 27) (a := x1.toInt) (b := 8) d_Grouping_bestGroupOf_15 (by decide) rfl (by decide) (fun b5 => ?_) (fun b5 => ?_)
      · refine mv_iconst (v := (-1)) d_Grouping_bestGroupOf_27 (by decide) ?_
        exact mv_iret d_Grouping_bestGroupOf_28 rfl (by first | rfl | decide) ⟨_, I0, _, rfl⟩
      · refine mv_aload_n d_Grouping_bestGroupOf_18 rfl rfl ?_
        obtain ⟨a7, q6, t_a7⟩ := tm_atR I0 h_o0 (k := 8) rfl
        refine tr_getK q6 d_Grouping_bestGroupOf_19 f_Grouping_25_7 ?_
        refine mv_iload_n d_Grouping_bestGroupOf_22 rfl rfl ?_
        refine tr_iald I0 t_a7 (by decide) d_Grouping_bestGroupOf_23 (vp_in_iff.mpr (by omega)) (fun v8 => ?_)
        refine mv_goto (tgt := 28) d_Grouping_bestGroupOf_24 (by decide) ?_
        exact mv_iret d_Grouping_bestGroupOf_28 rfl (by first | rfl | decide) ⟨_, I0, _, rfl⟩
theorem lV_TrustDesk_486 : mj_lV "TrustDesk" 486 kY_Grouping_bestGroupOf 1 := ⟨⟨(mj_in1 (List.mem_of_getElem? (i := 1269) (by decide +kernel)) rfl), (mj_in1 (List.mem_of_getElem? (i := 5) (by decide +kernel)) rfl), (mj_in1 (List.mem_of_getElem? (i := 1272) (by decide +kernel)) rfl), by decide, rfl, by decide⟩, (mj_in1 (List.mem_of_getElem? (i := 1270) (by decide +kernel)) rfl), (mj_in1 (List.mem_of_getElem? (i := 1271) (by decide +kernel)) rfl)⟩
theorem d_TrustDesk_grouped_52 : decode kY_TrustDesk_grouped.2.1 52 = .ok (.ireturn, 1) := by decide +kernel
def w_TrustDesk_grouped : List Nat := [700, 701, 702, 703, 713, 754, 755, 756, 757, 758, 759, 760, 761, 762, 1001, 1003, 1004, 1050, 1052]
theorem tc_TrustDesk_grouped {g : mj_G} {l : Launch} {d : Nat} {T0 : tm_H} {M0 : mj_M} {n0 x9 : Nat} {o0 : Nat} {x1 : Int32} {x2 : Int32} (h_o0 : T0 o0 = some (0, 12, 0)) (I0 : tm_I tm_FT (tm_in w_TrustDesk_grouped) x9 T0 M0 n0 T0 M0 n0) : mj_Met g l kY_TrustDesk_grouped (d + 12) [.ref o0, .int x1, .int x2] M0 n0 0 0 (tm_Q tm_FT (tm_in w_TrustDesk_grouped) x9 T0 M0 n0 (fun r _ _ => ∃ v : Int32, r = some (.int v))) := by
  refine mj_enter (by decide) (Nat.le_of_ble_eq_true rfl) ?_
  refine mv_aload_n d_TrustDesk_grouped_0 rfl rfl ?_
  refine mv_iload_n d_TrustDesk_grouped_1 rfl rfl ?_
  obtain ⟨_, b7, -⟩ := I0.1 _ _ h_o0
  refine mv_callV (kc' := 0) (ks' := 0) (As := [.int x2]) (st9 := [.int x2, .ref o0]) d_TrustDesk_grouped_2 lV_TrustDesk_257 b7 rfl (tc_TrustDesk_fundAt (d := (d + 8)) (x9 := x9) (o0 := o0) (x1 := x2) h_o0 I0.start) rfl (Nat.le_of_ble_eq_true rfl) (Nat.le_of_ble_eq_true rfl) (Nat.le_of_ble_eq_true rfl) (hst := rfl) (fun b1r M2 n3 b1 => ?_)
  obtain ⟨T4, J5, b9⟩ := b1
  have I6 := I0.call J5 (tm_sub (by decide)) (Or.inl rfl)
  have t10 := J5.up h_o0
  rcases b9 with rfl | ⟨a8, rfl, t_a8⟩
  · refine mv_ifnullN (tgt := 24) d_TrustDesk_grouped_5 (by decide) ?_
    refine mv_iconst (v := (-1)) d_TrustDesk_grouped_24 (by decide) ?_
    exact mv_iret d_TrustDesk_grouped_25 rfl (by first | rfl | decide) ⟨_, I6, _, rfl⟩
  · refine mv_ifnull d_TrustDesk_grouped_5 ?_
    refine mv_iload_n d_TrustDesk_grouped_8 rfl rfl ?_
    refine mv_iload_n d_TrustDesk_grouped_9 rfl rfl ?_
    refine mv_ishr d_TrustDesk_grouped_10 ?_
    refine mv_iconst (v := 1) d_TrustDesk_grouped_11 (by decide) ?_
    refine mv_iand d_TrustDesk_grouped_12 ?_
    have := mz_hi ((x1 >>> (x2 &&& 31)) &&& 1)
    refine mv_if_eqZ (tgt := 24) (a := ((x1 >>> (x2 &&& 31)) &&& 1).toInt) d_TrustDesk_grouped_13 (by decide) rfl (fun b11 => ?_) (fun b11 => ?_)
    · refine mv_iconst (v := (-1)) d_TrustDesk_grouped_24 (by decide) ?_
      exact mv_iret d_TrustDesk_grouped_25 rfl (by first | rfl | decide) ⟨_, I6, _, rfl⟩
    · refine mv_aload_n d_TrustDesk_grouped_16 rfl rfl ?_
      refine mv_iload_n d_TrustDesk_grouped_17 rfl rfl ?_
      obtain ⟨_, b18, -⟩ := I6.1 _ _ t10
      refine mv_callV (kc' := 0) (ks' := 0) (As := [.int x1]) (st9 := [.int x1, .ref o0]) d_TrustDesk_grouped_18 lV_TrustDesk_477 b18 rfl (tc_TrustDesk_gather (d := (d + 6)) (x9 := x9) (o0 := o0) (x1 := x1) t10 I6.start) rfl (Nat.le_of_ble_eq_true rfl) (Nat.le_of_ble_eq_true rfl) (Nat.le_of_ble_eq_true rfl) (hst := rfl) (fun b12r M13 n14 b12 => ?_)
      obtain ⟨T15, J16, v19, rfl, b20, b21⟩ := b12
      have I17 := I6.call J16 (tm_sub (by decide)) (Or.inl rfl)
      have t22 := J16.up t10
      have := mz_hi v19
      refine mv_if_neZ (tgt := 26) (a := v19.toInt) d_TrustDesk_grouped_21 (by decide) rfl (fun b23 => ?_) (fun b23 => ?_)
      · refine mv_aload_n d_TrustDesk_grouped_26 rfl rfl ?_
        obtain ⟨a25, q24, t_a25⟩ := tm_atR I17 t22 (k := 3) rfl
        refine tr_getK q24 d_TrustDesk_grouped_27 f_TrustDesk_33_12 ?_
        obtain ⟨_, b32, -⟩ := I17.1 _ _ t_a25
        refine mv_callV (kc' := 0) (ks' := 0) (As := []) (st9 := [.ref a25]) d_TrustDesk_grouped_30 lV_TrustDesk_480 b32 rfl (tc_Grouping_search (d := d) (x9 := x9) (o0 := a25) t_a25 I17.start) rfl (Nat.le_of_ble_eq_true rfl) (Nat.le_of_ble_eq_true rfl) (Nat.le_of_ble_eq_true rfl) (hst := rfl) (fun b26r M27 n28 b26 => ?_)
        obtain ⟨T29, J30, rfl⟩ := b26
        have I31 := I17.call J30 (tm_sub (by decide)) (Or.inl rfl)
        have t33 := J30.up t22
        have q34 := J30.keep t22 (by decide) q24
        have t35 := J30.up t_a25
        refine mv_iload_n d_TrustDesk_grouped_33 rfl rfl ?_
        refine mv_iconst (v := 1) d_TrustDesk_grouped_34 (by decide) ?_
        refine mv_iload_n d_TrustDesk_grouped_35 rfl rfl ?_
        refine mv_ishl d_TrustDesk_grouped_36 ?_
        refine mv_iconst (v := 1) d_TrustDesk_grouped_37 (by decide) ?_
        refine mv_isub d_TrustDesk_grouped_38 ?_
        refine mv_iand d_TrustDesk_grouped_39 ?_
        refine mv_callS (kc' := 0) (ks' := 0) (As := [.int (x1 &&& ((1 <<< (x2 &&& 31)) - 1))]) (st9 := [.int (x1 &&& ((1 <<< (x2 &&& 31)) - 1))]) d_TrustDesk_grouped_40 lS_TrustDesk_337 (tc_Integer_bitCount (d := (d + 11)) (x9 := x9) (x1 := (x1 &&& ((1 <<< (x2 &&& 31)) - 1)))  I31.start) rfl (Nat.le_of_ble_eq_true rfl) (Nat.le_of_ble_eq_true rfl) (Nat.le_of_ble_eq_true rfl) (hst := rfl) (fun b36r M37 n38 b36 => ?_)
        obtain ⟨T39, J40, v42, rfl⟩ := b36
        have I41 := I31.call J40 (tm_sub (by decide)) (Or.inl rfl)
        have t43 := J40.up t33
        have q44 := J40.keep t33 (by decide) q34
        have t45 := J40.up t35
        refine mv_istore_n (lv' := [(3, .int v42), (0, .ref o0), (1, .int x1), (2, .int x2)]) d_TrustDesk_grouped_43 rfl (by decide) rfl ?_
        refine mv_aload_n d_TrustDesk_grouped_44 rfl rfl ?_
        refine tr_getK (k := 3) q44 d_TrustDesk_grouped_45 f_TrustDesk_33_12 ?_
        refine mv_iload_n d_TrustDesk_grouped_48 rfl rfl ?_
        obtain ⟨_, b52, -⟩ := I41.1 _ _ t45
        refine mv_callV (kc' := 0) (ks' := 0) (As := [.int v42]) (st9 := [.int v42, .ref a25]) d_TrustDesk_grouped_49 lV_TrustDesk_486 b52 rfl (tc_Grouping_bestGroupOf (d := (d + 11)) (x9 := x9) (o0 := a25) (x1 := v42) t45 I41.start) rfl (Nat.le_of_ble_eq_true rfl) (Nat.le_of_ble_eq_true rfl) (Nat.le_of_ble_eq_true rfl) (hst := rfl) (fun b46r M47 n48 b46 => ?_)
        obtain ⟨T49, J50, v53, rfl⟩ := b46
        have I51 := I41.call J50 (tm_sub (by decide)) (Or.inl rfl)
        have t54 := J50.up t43
        have q55 := J50.keep t43 (by decide) q44
        have t56 := J50.up t45
        exact mv_iret d_TrustDesk_grouped_52 rfl (by first | rfl | decide) ⟨_, I51, _, rfl⟩
      · refine mv_iconst (v := (-1)) d_TrustDesk_grouped_24 (by decide) ?_
        exact mv_iret d_TrustDesk_grouped_25 rfl (by first | rfl | decide) ⟨_, I17, _, rfl⟩
abbrev kY_TrustDesk_holds : mj_Y := (⟨"TrustDesk", "holds", "(II)I"⟩, prog_1_method_7_code, 3, (Option.some Jvm.ClassFile.FieldType.int))
theorem d_TrustDesk_holds_0 : decode kY_TrustDesk_holds.2.1 0 = .ok (.iload_n 1, 1) := by decide +kernel
theorem d_TrustDesk_holds_1 : decode kY_TrustDesk_holds.2.1 1 = .ok (.invokestatic 94, 3) := by decide +kernel
theorem d_TrustDesk_holds_4 : decode kY_TrustDesk_holds.2.1 4 = .ok (.ifCond .eq 12, 3) := by decide +kernel
theorem d_TrustDesk_holds_16 : decode kY_TrustDesk_holds.2.1 16 = .ok (.iconst (-1), 1) := by decide +kernel
theorem d_TrustDesk_holds_17 : decode kY_TrustDesk_holds.2.1 17 = .ok (.ireturn, 1) := by decide +kernel
theorem d_TrustDesk_holds_7 : decode kY_TrustDesk_holds.2.1 7 = .ok (.iload_n 2, 1) := by decide +kernel
theorem d_TrustDesk_holds_8 : decode kY_TrustDesk_holds.2.1 8 = .ok (.ifCond .lt 8, 3) := by decide +kernel
theorem d_TrustDesk_holds_11 : decode kY_TrustDesk_holds.2.1 11 = .ok (.iload_n 2, 1) := by decide +kernel
theorem d_TrustDesk_holds_12 : decode kY_TrustDesk_holds.2.1 12 = .ok (.iconst 5, 1) := by decide +kernel
theorem d_TrustDesk_holds_13 : decode kY_TrustDesk_holds.2.1 13 = .ok (.if_icmp .le 5, 3) := by decide +kernel
theorem d_TrustDesk_holds_18 : decode kY_TrustDesk_holds.2.1 18 = .ok (.aload_n 0, 1) := by decide +kernel
theorem d_TrustDesk_holds_19 : decode kY_TrustDesk_holds.2.1 19 = .ok (.iload_n 1, 1) := by decide +kernel
theorem d_TrustDesk_holds_20 : decode kY_TrustDesk_holds.2.1 20 = .ok (.invokevirtual 114, 3) := by decide +kernel
theorem d_TrustDesk_holds_23 : decode kY_TrustDesk_holds.2.1 23 = .ok (.iload_n 2, 1) := by decide +kernel
theorem d_TrustDesk_holds_24 : decode kY_TrustDesk_holds.2.1 24 = .ok (.invokevirtual 118, 3) := by decide +kernel
theorem d_TrustDesk_holds_27 : decode kY_TrustDesk_holds.2.1 27 = .ok (.ireturn, 1) := by decide +kernel
def w_TrustDesk_holds : List Nat := []
theorem tc_TrustDesk_holds {g : mj_G} {l : Launch} {d : Nat} {T0 : tm_H} {M0 : mj_M} {n0 x9 : Nat} {o0 : Nat} {x1 : Int32} {x2 : Int32} (h_o0 : T0 o0 = some (0, 12, 0)) (I0 : tm_I tm_FT (tm_in w_TrustDesk_holds) x9 T0 M0 n0 T0 M0 n0) : mj_Met g l kY_TrustDesk_holds (d + 4) [.ref o0, .int x1, .int x2] M0 n0 0 0 (tm_Q tm_FT (tm_in w_TrustDesk_holds) x9 T0 M0 n0 (fun r _ _ => ∃ v : Int32, r = some (.int v))) := by
  refine mj_enter (by decide) (Nat.le_of_ble_eq_true rfl) ?_
  refine mv_iload_n d_TrustDesk_holds_0 rfl rfl ?_
  refine mv_callS (kc' := 0) (ks' := 0) (As := [.int x1]) (st9 := [.int x1]) d_TrustDesk_holds_1 lS_TrustDesk_94 (tc_TrustDesk_isDay (d := (d + 3)) (x9 := x9) (x1 := x1)  I0.start) rfl (Nat.le_of_ble_eq_true rfl) (Nat.le_of_ble_eq_true rfl) (Nat.le_of_ble_eq_true rfl) (hst := rfl) (fun b1r M2 n3 b1 => ?_)
  obtain ⟨T4, J5, v7, rfl, b8, b9⟩ := b1
  have I6 := I0.call J5 (tm_sub (by decide)) (Or.inl rfl)
  have t10 := J5.up h_o0
  have := mz_hi v7
  refine mv_if_eqZ (tgt := 16) (a := v7.toInt) d_TrustDesk_holds_4 (by decide) rfl (fun b11 => ?_) (fun b11 => ?_)
  · refine mv_iconst (v := (-1)) d_TrustDesk_holds_16 (by decide) ?_
    exact mv_iret d_TrustDesk_holds_17 rfl (by first | rfl | decide) ⟨_, I6, _, rfl⟩
  · refine mv_iload_n d_TrustDesk_holds_7 rfl rfl ?_
    have := mz_hi x2
    refine mv_if_ltZ (tgt := 16) (a := x2.toInt) d_TrustDesk_holds_8 (by decide) rfl (fun b12 => ?_) (fun b12 => ?_)
    · refine mv_iconst (v := (-1)) d_TrustDesk_holds_16 (by decide) ?_
      exact mv_iret d_TrustDesk_holds_17 rfl (by first | rfl | decide) ⟨_, I6, _, rfl⟩
    · refine mv_iload_n d_TrustDesk_holds_11 rfl rfl ?_
      refine mv_iconst (v := 5) d_TrustDesk_holds_12 (by decide) ?_
      have := mz_hi x2
      refine mv_icmp_leZ (tgt := 18) (a := x2.toInt) (b := 5) d_TrustDesk_holds_13 (by decide) rfl (by decide) (fun b13 => ?_) (fun b13 => ?_)
      · refine mv_aload_n d_TrustDesk_holds_18 rfl rfl ?_
        refine mv_iload_n d_TrustDesk_holds_19 rfl rfl ?_
        obtain ⟨_, b20, -⟩ := I6.1 _ _ t10
        refine mv_callV (kc' := 0) (ks' := 0) (As := [.int x1]) (st9 := [.int x1, .ref o0]) d_TrustDesk_holds_20 lV_TrustDesk_114 b20 rfl (tc_TrustDesk_inForce (d := d) (x9 := x9) (o0 := o0) (x1 := x1) t10 I6.start) rfl (Nat.le_of_ble_eq_true rfl) (Nat.le_of_ble_eq_true rfl) (Nat.le_of_ble_eq_true rfl) (hst := rfl) (fun b14r M15 n16 b14 => ?_)
        obtain ⟨T17, J18, a21, rfl, t_a21⟩ := b14
        have I19 := I6.call J18 (tm_sub (by decide)) (Or.inl rfl)
        have t22 := J18.up t10
        refine mv_iload_n d_TrustDesk_holds_23 rfl rfl ?_
        obtain ⟨_, b29, -⟩ := I19.1 _ _ t_a21
        refine mv_callV (kc' := 0) (ks' := 0) (As := [.int x2]) (st9 := [.int x2, .ref a21]) d_TrustDesk_holds_24 lV_TrustDesk_118 b29 rfl (tc_Act_rule (d := (d + 3)) (x9 := x9) (o0 := a21) (x1 := x2) t_a21 I19.start) rfl (Nat.le_of_ble_eq_true rfl) (Nat.le_of_ble_eq_true rfl) (Nat.le_of_ble_eq_true rfl) (hst := rfl) (fun b23r M24 n25 b23 => ?_)
        obtain ⟨T26, J27, v30, rfl⟩ := b23
        have I28 := I19.call J27 (tm_sub (by decide)) (Or.inl rfl)
        have t31 := J27.up t22
        exact mv_iret d_TrustDesk_holds_27 rfl (by first | rfl | decide) ⟨_, I28, _, rfl⟩
      · refine mv_iconst (v := (-1)) d_TrustDesk_holds_16 (by decide) ?_
        exact mv_iret d_TrustDesk_holds_17 rfl (by first | rfl | decide) ⟨_, I6, _, rfl⟩
abbrev kY_TrustDesk_income : mj_Y := (⟨"TrustDesk", "income", "(III)I"⟩, prog_1_method_40_code, 5, (Option.some Jvm.ClassFile.FieldType.int))
theorem d_TrustDesk_income_0 : decode kY_TrustDesk_income.2.1 0 = .ok (.aload_n 0, 1) := by decide +kernel
theorem d_TrustDesk_income_1 : decode kY_TrustDesk_income.2.1 1 = .ok (.iload_n 1, 1) := by decide +kernel
theorem d_TrustDesk_income_2 : decode kY_TrustDesk_income.2.1 2 = .ok (.invokevirtual 257, 3) := by decide +kernel
theorem d_TrustDesk_income_5 : decode kY_TrustDesk_income.2.1 5 = .ok (.astore 4, 2) := by decide +kernel
theorem d_TrustDesk_income_7 : decode kY_TrustDesk_income.2.1 7 = .ok (.aload 4, 2) := by decide +kernel
theorem d_TrustDesk_income_9 : decode kY_TrustDesk_income.2.1 9 = .ok (.ifnull 18, 3) := by decide +kernel
theorem d_TrustDesk_income_27 : decode kY_TrustDesk_income.2.1 27 = .ok (.iconst (-1), 1) := by decide +kernel
theorem d_TrustDesk_income_28 : decode kY_TrustDesk_income.2.1 28 = .ok (.ireturn, 1) := by decide +kernel
theorem d_TrustDesk_income_12 : decode kY_TrustDesk_income.2.1 12 = .ok (.iload_n 2, 1) := by decide +kernel
theorem d_TrustDesk_income_13 : decode kY_TrustDesk_income.2.1 13 = .ok (.invokestatic 70, 3) := by decide +kernel
theorem d_TrustDesk_income_16 : decode kY_TrustDesk_income.2.1 16 = .ok (.ifCond .eq 11, 3) := by decide +kernel
theorem d_TrustDesk_income_19 : decode kY_TrustDesk_income.2.1 19 = .ok (.aload_n 0, 1) := by decide +kernel
theorem d_TrustDesk_income_20 : decode kY_TrustDesk_income.2.1 20 = .ok (.iload_n 3, 1) := by decide +kernel
theorem d_TrustDesk_income_21 : decode kY_TrustDesk_income.2.1 21 = .ok (.invokevirtual 81, 3) := by decide +kernel
theorem d_TrustDesk_income_24 : decode kY_TrustDesk_income.2.1 24 = .ok (.ifCond .ne 5, 3) := by decide +kernel
theorem d_TrustDesk_income_29 : decode kY_TrustDesk_income.2.1 29 = .ok (.aload 4, 2) := by decide +kernel
theorem d_TrustDesk_income_31 : decode kY_TrustDesk_income.2.1 31 = .ok (.aload_n 0, 1) := by decide +kernel
theorem d_TrustDesk_income_32 : decode kY_TrustDesk_income.2.1 32 = .ok (.getfield 10, 3) := by decide +kernel
theorem d_TrustDesk_income_35 : decode kY_TrustDesk_income.2.1 35 = .ok (.bipush 6, 2) := by decide +kernel
theorem d_TrustDesk_income_37 : decode kY_TrustDesk_income.2.1 37 = .ok (.iload_n 2, 1) := by decide +kernel
theorem d_TrustDesk_income_38 : decode kY_TrustDesk_income.2.1 38 = .ok (.iload_n 3, 1) := by decide +kernel
theorem d_TrustDesk_income_39 : decode kY_TrustDesk_income.2.1 39 = .ok (.invokevirtual 84, 3) := by decide +kernel
theorem d_TrustDesk_income_42 : decode kY_TrustDesk_income.2.1 42 = .ok (.i2l, 1) := by decide +kernel
theorem d_TrustDesk_income_43 : decode kY_TrustDesk_income.2.1 43 = .ok (.invokevirtual 184, 3) := by decide +kernel
theorem d_TrustDesk_income_46 : decode kY_TrustDesk_income.2.1 46 = .ok (.l2i, 1) := by decide +kernel
theorem d_TrustDesk_income_47 : decode kY_TrustDesk_income.2.1 47 = .ok (.ireturn, 1) := by decide +kernel
def w_TrustDesk_income : List Nat := []
theorem tc_TrustDesk_income {g : mj_G} {l : Launch} {d : Nat} {T0 : tm_H} {M0 : mj_M} {n0 x9 : Nat} {o0 : Nat} {x1 : Int32} {x2 : Int32} {x3 : Int32} (h_o0 : T0 o0 = some (0, 12, 0)) (I0 : tm_I tm_FT (tm_in w_TrustDesk_income) x9 T0 M0 n0 T0 M0 n0) : mj_Met g l kY_TrustDesk_income (d + 4) [.ref o0, .int x1, .int x2, .int x3] M0 n0 0 0 (tm_Q tm_FT (tm_in w_TrustDesk_income) x9 T0 M0 n0 (fun r _ _ => ∃ v : Int32, r = some (.int v))) := by
  refine mj_enter (by decide) (Nat.le_of_ble_eq_true rfl) ?_
  refine mv_aload_n d_TrustDesk_income_0 rfl rfl ?_
  refine mv_iload_n d_TrustDesk_income_1 rfl rfl ?_
  obtain ⟨_, b7, -⟩ := I0.1 _ _ h_o0
  refine mv_callV (kc' := 0) (ks' := 0) (As := [.int x1]) (st9 := [.int x1, .ref o0]) d_TrustDesk_income_2 lV_TrustDesk_257 b7 rfl (tc_TrustDesk_fundAt (d := d) (x9 := x9) (o0 := o0) (x1 := x1) h_o0 I0.start) rfl (Nat.le_of_ble_eq_true rfl) (Nat.le_of_ble_eq_true rfl) (Nat.le_of_ble_eq_true rfl) (hst := rfl) (fun b1r M2 n3 b1 => ?_)
  obtain ⟨T4, J5, b9⟩ := b1
  have I6 := I0.call J5 (tm_sub (by decide)) (Or.inl rfl)
  have t10 := J5.up h_o0
  rcases b9 with rfl | ⟨a8, rfl, t_a8⟩
  · refine mv_astoreN (lv' := [(4, .null), (0, .ref o0), (1, .int x1), (2, .int x2), (3, .int x3)]) d_TrustDesk_income_5 (by decide) rfl ?_
    refine mv_aloadN d_TrustDesk_income_7 rfl ?_
    refine mv_ifnullN (tgt := 27) d_TrustDesk_income_9 (by decide) ?_
    refine mv_iconst (v := (-1)) d_TrustDesk_income_27 (by decide) ?_
    exact mv_iret d_TrustDesk_income_28 rfl (by first | rfl | decide) ⟨_, I6, _, rfl⟩
  · refine mv_astore (lv' := [(4, .ref a8), (0, .ref o0), (1, .int x1), (2, .int x2), (3, .int x3)]) d_TrustDesk_income_5 (by decide) rfl ?_
    refine mv_aload d_TrustDesk_income_7 rfl ?_
    refine mv_ifnull d_TrustDesk_income_9 ?_
    refine mv_iload_n d_TrustDesk_income_12 rfl rfl ?_
    refine mv_callS (kc' := 0) (ks' := 0) (As := [.int x2]) (st9 := [.int x2]) d_TrustDesk_income_13 lS_TrustDesk_70 (tc_TrustDesk_isYear (d := (d + 3)) (x9 := x9) (x1 := x2)  I6.start) rfl (Nat.le_of_ble_eq_true rfl) (Nat.le_of_ble_eq_true rfl) (Nat.le_of_ble_eq_true rfl) (hst := rfl) (fun b11r M12 n13 b11 => ?_)
    obtain ⟨T14, J15, v17, rfl, b18, b19⟩ := b11
    have I16 := I6.call J15 (tm_sub (by decide)) (Or.inl rfl)
    have t20 := J15.up t_a8
    have t21 := J15.up t10
    have := mz_hi v17
    refine mv_if_eqZ (tgt := 27) (a := v17.toInt) d_TrustDesk_income_16 (by decide) rfl (fun b22 => ?_) (fun b22 => ?_)
    · refine mv_iconst (v := (-1)) d_TrustDesk_income_27 (by decide) ?_
      exact mv_iret d_TrustDesk_income_28 rfl (by first | rfl | decide) ⟨_, I16, _, rfl⟩
    · refine mv_aload_n d_TrustDesk_income_19 rfl rfl ?_
      refine mv_iload_n d_TrustDesk_income_20 rfl rfl ?_
      obtain ⟨_, b29, -⟩ := I16.1 _ _ t21
      refine mv_callV (kc' := 0) (ks' := 0) (As := [.int x3]) (st9 := [.int x3, .ref o0]) d_TrustDesk_income_21 lV_TrustDesk_81 b29 rfl (tc_TrustDesk_isKnown (d := (d + 3)) (x9 := x9) (o0 := o0) (x1 := x3) t21 I16.start) rfl (Nat.le_of_ble_eq_true rfl) (Nat.le_of_ble_eq_true rfl) (Nat.le_of_ble_eq_true rfl) (hst := rfl) (fun b23r M24 n25 b23 => ?_)
      obtain ⟨T26, J27, v30, rfl, b31, b32⟩ := b23
      have I28 := I16.call J27 (tm_sub (by decide)) (Or.inl rfl)
      have t33 := J27.up t20
      have t34 := J27.up t21
      have := mz_hi v30
      refine mv_if_neZ (tgt := 29) (a := v30.toInt) d_TrustDesk_income_24 (by decide) rfl (fun b35 => ?_) (fun b35 => ?_)
      · refine mv_aload d_TrustDesk_income_29 rfl ?_
        refine mv_aload_n d_TrustDesk_income_31 rfl rfl ?_
        obtain ⟨a37, q36, t_a37⟩ := tm_atR I28 t34 (k := 0) rfl
        refine tr_getK q36 d_TrustDesk_income_32 f_TrustDesk_10_12 ?_
        refine mv_bipush (v := 6) d_TrustDesk_income_35 (by decide) ?_
        refine mv_iload_n d_TrustDesk_income_37 rfl rfl ?_
        refine mv_iload_n d_TrustDesk_income_38 rfl rfl ?_
        obtain ⟨_, b44, -⟩ := I28.1 _ _ t_a37
        refine mv_callV (kc' := 0) (ks' := 0) (As := [.int 6, .int x2, .int x3]) (st9 := [.int x3, .int x2, .int 6, .ref a37, .ref a8]) d_TrustDesk_income_39 lV_TrustDesk_84 b44 rfl (tc_Facts_asKnown (d := (d + 3)) (x9 := x9) (o0 := a37) (x1 := 6) (x2 := x2) (x3 := x3) t_a37 I28.start) rfl (Nat.le_of_ble_eq_true rfl) (Nat.le_of_ble_eq_true rfl) (Nat.le_of_ble_eq_true rfl) (hst := rfl) (fun b38r M39 n40 b38 => ?_)
        obtain ⟨T41, J42, v45, rfl⟩ := b38
        have I43 := I28.call J42 (tm_sub (by decide)) (Or.inl rfl)
        have t46 := J42.up t33
        have t47 := J42.up t34
        have q48 := J42.keep t34 (by decide) q36
        have t49 := J42.up t_a37
        refine mv_i2l (v := v45.toInt64) d_TrustDesk_income_42 rfl ?_
        obtain ⟨_, b56, -⟩ := I43.1 _ _ t46
        refine mv_callV (kc' := 0) (ks' := 0) (As := [.long v45.toInt64]) (st9 := [.long v45.toInt64, .ref a8]) d_TrustDesk_income_43 lV_TrustDesk_184 b56 rfl (tc_Fund_incomeAt (d := (d + 3)) (x9 := x9) (o0 := a8) (x1 := v45.toInt64) t46 I43.start) rfl (Nat.le_of_ble_eq_true rfl) (Nat.le_of_ble_eq_true rfl) (Nat.le_of_ble_eq_true rfl) (hst := rfl) (fun b50r M51 n52 b50 => ?_)
        obtain ⟨T53, J54, v57, rfl⟩ := b50
        have I55 := I43.call J54 (tm_sub (by decide)) (Or.inl rfl)
        have t58 := J54.up t46
        have t59 := J54.up t47
        have q60 := J54.keep t47 (by decide) q48
        have t61 := J54.up t49
        refine mv_l2i (v := v57.toInt32) d_TrustDesk_income_46 rfl ?_
        exact mv_iret d_TrustDesk_income_47 rfl (by first | rfl | decide) ⟨_, I55, _, rfl⟩
      · refine mv_iconst (v := (-1)) d_TrustDesk_income_27 (by decide) ?_
        exact mv_iret d_TrustDesk_income_28 rfl (by first | rfl | decide) ⟨_, I28, _, rfl⟩
abbrev kY_TrustDesk_isPerson : mj_Y := (⟨"TrustDesk", "isPerson", "(I)Z"⟩, prog_1_method_68_code, 1, (Option.some Jvm.ClassFile.FieldType.boolean))
theorem d_TrustDesk_isPerson_0 : decode kY_TrustDesk_isPerson.2.1 0 = .ok (.iload_n 0, 1) := by decide +kernel
theorem d_TrustDesk_isPerson_1 : decode kY_TrustDesk_isPerson.2.1 1 = .ok (.ifCond .lt 13, 3) := by decide +kernel
theorem d_TrustDesk_isPerson_14 : decode kY_TrustDesk_isPerson.2.1 14 = .ok (.iconst 0, 1) := by decide +kernel
theorem d_TrustDesk_isPerson_15 : decode kY_TrustDesk_isPerson.2.1 15 = .ok (.ireturn, 1) := by decide +kernel
theorem d_TrustDesk_isPerson_4 : decode kY_TrustDesk_isPerson.2.1 4 = .ok (.iload_n 0, 1) := by decide +kernel
theorem d_TrustDesk_isPerson_5 : decode kY_TrustDesk_isPerson.2.1 5 = .ok (.bipush 100, 2) := by decide +kernel
theorem d_TrustDesk_isPerson_7 : decode kY_TrustDesk_isPerson.2.1 7 = .ok (.if_icmp .ge 7, 3) := by decide +kernel
theorem d_TrustDesk_isPerson_10 : decode kY_TrustDesk_isPerson.2.1 10 = .ok (.iconst 1, 1) := by decide +kernel
theorem d_TrustDesk_isPerson_11 : decode kY_TrustDesk_isPerson.2.1 11 = .ok (.goto 4, 3) := by decide +kernel
def w_TrustDesk_isPerson : List Nat := []
theorem tc_TrustDesk_isPerson {g : mj_G} {l : Launch} {d : Nat} {T0 : tm_H} {M0 : mj_M} {n0 x9 : Nat} {x1 : Int32} (I0 : tm_I tm_FT (tm_in w_TrustDesk_isPerson) x9 T0 M0 n0 T0 M0 n0) : mj_Met g l kY_TrustDesk_isPerson d [.int x1] M0 n0 0 0 (tm_Q tm_FT (tm_in w_TrustDesk_isPerson) x9 T0 M0 n0 (fun r _ _ => ∃ v : Int32, r = some (.int v) ∧ 0 ≤ v.toInt ∧ v.toInt ≤ 1)) := by
  refine mj_enter (by decide) (Nat.le_of_ble_eq_true rfl) ?_
  refine mv_iload_n d_TrustDesk_isPerson_0 rfl rfl ?_
  have := mz_hi x1
  refine mv_if_ltZ (tgt := 14) (a := x1.toInt) d_TrustDesk_isPerson_1 (by decide) rfl (fun b1 => ?_) (fun b1 => ?_)
  · refine mv_iconst (v := 0) d_TrustDesk_isPerson_14 (by decide) ?_
    exact mv_iret d_TrustDesk_isPerson_15 rfl (by decide) ⟨_, I0, _, rfl, by decide, by decide⟩
  · refine mv_iload_n d_TrustDesk_isPerson_4 rfl rfl ?_
    refine mv_bipush (v := 100) d_TrustDesk_isPerson_5 (by decide) ?_
    have := mz_hi x1
    refine mv_icmp_geZ (tgt := 14) (a := x1.toInt) (b := 100) d_TrustDesk_isPerson_7 (by decide) rfl (by decide) (fun b2 => ?_) (fun b2 => ?_)
    · refine mv_iconst (v := 0) d_TrustDesk_isPerson_14 (by decide) ?_
      exact mv_iret d_TrustDesk_isPerson_15 rfl (by decide) ⟨_, I0, _, rfl, by decide, by decide⟩
    · refine mv_iconst (v := 1) d_TrustDesk_isPerson_10 (by decide) ?_
      refine mv_goto (tgt := 15) d_TrustDesk_isPerson_11 (by decide) ?_
      exact mv_iret d_TrustDesk_isPerson_15 rfl (by decide) ⟨_, I0, _, rfl, by decide, by decide⟩
abbrev kY_TrustDesk_isSubject : mj_Y := (⟨"TrustDesk", "isSubject", "(II)Z"⟩, prog_1_method_19_code, 3, (Option.some Jvm.ClassFile.FieldType.boolean))
theorem d_TrustDesk_isSubject_0 : decode kY_TrustDesk_isSubject.2.1 0 = .ok (.iload_n 1, 1) := by decide +kernel
theorem d_TrustDesk_isSubject_1 : decode kY_TrustDesk_isSubject.2.1 1 = .ok (.tableswitch 87 0 3 #[31, 45, 59, 77], 31) := by decide +kernel
theorem d_TrustDesk_isSubject_88 : decode kY_TrustDesk_isSubject.2.1 88 = .ok (.iconst 0, 1) := by decide +kernel
theorem d_TrustDesk_isSubject_89 : decode kY_TrustDesk_isSubject.2.1 89 = .ok (.ireturn, 1) := by decide +kernel
theorem d_TrustDesk_isSubject_32 : decode kY_TrustDesk_isSubject.2.1 32 = .ok (.aload_n 0, 1) := by decide +kernel
theorem d_TrustDesk_isSubject_33 : decode kY_TrustDesk_isSubject.2.1 33 = .ok (.iload_n 2, 1) := by decide +kernel
theorem d_TrustDesk_isSubject_34 : decode kY_TrustDesk_isSubject.2.1 34 = .ok (.invokevirtual 276, 3) := by decide +kernel
theorem d_TrustDesk_isSubject_37 : decode kY_TrustDesk_isSubject.2.1 37 = .ok (.ifnull 7, 3) := by decide +kernel
theorem d_TrustDesk_isSubject_44 : decode kY_TrustDesk_isSubject.2.1 44 = .ok (.iconst 0, 1) := by decide +kernel
theorem d_TrustDesk_isSubject_45 : decode kY_TrustDesk_isSubject.2.1 45 = .ok (.ireturn, 1) := by decide +kernel
theorem d_TrustDesk_isSubject_40 : decode kY_TrustDesk_isSubject.2.1 40 = .ok (.iconst 1, 1) := by decide +kernel
theorem d_TrustDesk_isSubject_41 : decode kY_TrustDesk_isSubject.2.1 41 = .ok (.goto 4, 3) := by decide +kernel
theorem d_TrustDesk_isSubject_46 : decode kY_TrustDesk_isSubject.2.1 46 = .ok (.aload_n 0, 1) := by decide +kernel
theorem d_TrustDesk_isSubject_47 : decode kY_TrustDesk_isSubject.2.1 47 = .ok (.iload_n 2, 1) := by decide +kernel
theorem d_TrustDesk_isSubject_48 : decode kY_TrustDesk_isSubject.2.1 48 = .ok (.invokevirtual 257, 3) := by decide +kernel
theorem d_TrustDesk_isSubject_51 : decode kY_TrustDesk_isSubject.2.1 51 = .ok (.ifnull 7, 3) := by decide +kernel
theorem d_TrustDesk_isSubject_58 : decode kY_TrustDesk_isSubject.2.1 58 = .ok (.iconst 0, 1) := by decide +kernel
theorem d_TrustDesk_isSubject_59 : decode kY_TrustDesk_isSubject.2.1 59 = .ok (.ireturn, 1) := by decide +kernel
theorem d_TrustDesk_isSubject_54 : decode kY_TrustDesk_isSubject.2.1 54 = .ok (.iconst 1, 1) := by decide +kernel
theorem d_TrustDesk_isSubject_55 : decode kY_TrustDesk_isSubject.2.1 55 = .ok (.goto 4, 3) := by decide +kernel
theorem d_TrustDesk_isSubject_60 : decode kY_TrustDesk_isSubject.2.1 60 = .ok (.iload_n 2, 1) := by decide +kernel
theorem d_TrustDesk_isSubject_61 : decode kY_TrustDesk_isSubject.2.1 61 = .ok (.iconst 1, 1) := by decide +kernel
theorem d_TrustDesk_isSubject_62 : decode kY_TrustDesk_isSubject.2.1 62 = .ok (.if_icmp .lt 14, 3) := by decide +kernel
theorem d_TrustDesk_isSubject_76 : decode kY_TrustDesk_isSubject.2.1 76 = .ok (.iconst 0, 1) := by decide +kernel
theorem d_TrustDesk_isSubject_77 : decode kY_TrustDesk_isSubject.2.1 77 = .ok (.ireturn, 1) := by decide +kernel
theorem d_TrustDesk_isSubject_65 : decode kY_TrustDesk_isSubject.2.1 65 = .ok (.iload_n 2, 1) := by decide +kernel
theorem d_TrustDesk_isSubject_66 : decode kY_TrustDesk_isSubject.2.1 66 = .ok (.sipush 999, 3) := by decide +kernel
theorem d_TrustDesk_isSubject_69 : decode kY_TrustDesk_isSubject.2.1 69 = .ok (.if_icmp .gt 7, 3) := by decide +kernel
theorem d_TrustDesk_isSubject_72 : decode kY_TrustDesk_isSubject.2.1 72 = .ok (.iconst 1, 1) := by decide +kernel
theorem d_TrustDesk_isSubject_73 : decode kY_TrustDesk_isSubject.2.1 73 = .ok (.goto 4, 3) := by decide +kernel
theorem d_TrustDesk_isSubject_78 : decode kY_TrustDesk_isSubject.2.1 78 = .ok (.iload_n 2, 1) := by decide +kernel
theorem d_TrustDesk_isSubject_79 : decode kY_TrustDesk_isSubject.2.1 79 = .ok (.ifCond .lt 7, 3) := by decide +kernel
theorem d_TrustDesk_isSubject_86 : decode kY_TrustDesk_isSubject.2.1 86 = .ok (.iconst 0, 1) := by decide +kernel
theorem d_TrustDesk_isSubject_87 : decode kY_TrustDesk_isSubject.2.1 87 = .ok (.ireturn, 1) := by decide +kernel
theorem d_TrustDesk_isSubject_82 : decode kY_TrustDesk_isSubject.2.1 82 = .ok (.iconst 1, 1) := by decide +kernel
theorem d_TrustDesk_isSubject_83 : decode kY_TrustDesk_isSubject.2.1 83 = .ok (.goto 4, 3) := by decide +kernel
abbrev kY_TrustDesk_judge : mj_Y := (⟨"TrustDesk", "judge", "(I)J"⟩, prog_1_method_52_code, 2, (Option.some Jvm.ClassFile.FieldType.long))
theorem d_TrustDesk_judge_0 : decode kY_TrustDesk_judge.2.1 0 = .ok (.aload_n 0, 1) := by decide +kernel
theorem d_TrustDesk_judge_1 : decode kY_TrustDesk_judge.2.1 1 = .ok (.iload_n 1, 1) := by decide +kernel
theorem d_TrustDesk_judge_2 : decode kY_TrustDesk_judge.2.1 2 = .ok (.invokevirtual 477, 3) := by decide +kernel
theorem d_TrustDesk_judge_5 : decode kY_TrustDesk_judge.2.1 5 = .ok (.ifCond .ne 7, 3) := by decide +kernel
theorem d_TrustDesk_judge_12 : decode kY_TrustDesk_judge.2.1 12 = .ok (.aload_n 0, 1) := by decide +kernel
theorem d_TrustDesk_judge_13 : decode kY_TrustDesk_judge.2.1 13 = .ok (.getfield 33, 3) := by decide +kernel
theorem d_TrustDesk_judge_16 : decode kY_TrustDesk_judge.2.1 16 = .ok (.invokevirtual 492, 3) := by decide +kernel
abbrev kY_Grouping_judgeLaid : mj_Y := (⟨"TrustDesk$Grouping", "judgeLaid", "()J"⟩, prog_8_method_5_code, 3, (Option.some Jvm.ClassFile.FieldType.long))
theorem d_Grouping_judgeLaid_0 : decode kY_Grouping_judgeLaid.2.1 0 = .ok (.iconst 0, 1) := by decide +kernel
theorem d_Grouping_judgeLaid_1 : decode kY_Grouping_judgeLaid.2.1 1 = .ok (.istore_n 1, 1) := by decide +kernel
theorem d_Grouping_judgeLaid_2 : decode kY_Grouping_judgeLaid.2.1 2 = .ok (.iload_n 1, 1) := by decide +kernel
theorem d_Grouping_judgeLaid_3 : decode kY_Grouping_judgeLaid.2.1 3 = .ok (.aload_n 0, 1) := by decide +kernel
theorem d_Grouping_judgeLaid_4 : decode kY_Grouping_judgeLaid.2.1 4 = .ok (.getfield 44, 3) := by decide +kernel
theorem d_Grouping_judgeLaid_7 : decode kY_Grouping_judgeLaid.2.1 7 = .ok (.if_icmp .ge 54, 3) := by decide +kernel
theorem d_Grouping_judgeLaid_61 : decode kY_Grouping_judgeLaid.2.1 61 = .ok (.aload_n 0, 1) := by decide +kernel
theorem d_Grouping_judgeLaid_62 : decode kY_Grouping_judgeLaid.2.1 62 = .ok (.bipush 8, 2) := by decide +kernel
theorem d_Grouping_judgeLaid_64 : decode kY_Grouping_judgeLaid.2.1 64 = .ok (.invokevirtual 64, 3) := by decide +kernel
theorem d_Grouping_judgeLaid_67 : decode kY_Grouping_judgeLaid.2.1 67 = .ok (.lreturn, 1) := by decide +kernel
theorem d_Grouping_judgeLaid_10 : decode kY_Grouping_judgeLaid.2.1 10 = .ok (.iload_n 1, 1) := by decide +kernel
theorem d_Grouping_judgeLaid_11 : decode kY_Grouping_judgeLaid.2.1 11 = .ok (.bipush 8, 2) := by decide +kernel
theorem d_Grouping_judgeLaid_13 : decode kY_Grouping_judgeLaid.2.1 13 = .ok (.if_icmp .ge 48, 3) := by decide +kernel
theorem d_Grouping_judgeLaid_16 : decode kY_Grouping_judgeLaid.2.1 16 = .ok (.aload_n 0, 1) := by decide +kernel
theorem d_Grouping_judgeLaid_17 : decode kY_Grouping_judgeLaid.2.1 17 = .ok (.getfield 19, 3) := by decide +kernel
theorem d_Grouping_judgeLaid_20 : decode kY_Grouping_judgeLaid.2.1 20 = .ok (.iload_n 1, 1) := by decide +kernel
theorem d_Grouping_judgeLaid_21 : decode kY_Grouping_judgeLaid.2.1 21 = .ok (.iaload, 1) := by decide +kernel
theorem d_Grouping_judgeLaid_22 : decode kY_Grouping_judgeLaid.2.1 22 = .ok (.istore_n 2, 1) := by decide +kernel
theorem d_Grouping_judgeLaid_23 : decode kY_Grouping_judgeLaid.2.1 23 = .ok (.iload_n 2, 1) := by decide +kernel
theorem d_Grouping_judgeLaid_24 : decode kY_Grouping_judgeLaid.2.1 24 = .ok (.ifCond .lt 9, 3) := by decide +kernel
theorem d_Grouping_judgeLaid_33 : decode kY_Grouping_judgeLaid.2.1 33 = .ok (.ldc2_w 54, 3) := by decide +kernel
theorem k_Grouping_54 : Cond.constantLong "TrustDesk$Grouping" 54 (-2) ∈ mj_T := (mj_in1 (List.mem_of_getElem? (i := 1285) (by decide +kernel)) rfl)
theorem d_Grouping_judgeLaid_36 : decode kY_Grouping_judgeLaid.2.1 36 = .ok (.lreturn, 1) := by decide +kernel
theorem d_Grouping_judgeLaid_27 : decode kY_Grouping_judgeLaid.2.1 27 = .ok (.iload_n 2, 1) := by decide +kernel
theorem d_Grouping_judgeLaid_28 : decode kY_Grouping_judgeLaid.2.1 28 = .ok (.bipush 8, 2) := by decide +kernel
theorem d_Grouping_judgeLaid_30 : decode kY_Grouping_judgeLaid.2.1 30 = .ok (.if_icmp .lt 7, 3) := by decide +kernel
theorem d_Grouping_judgeLaid_37 : decode kY_Grouping_judgeLaid.2.1 37 = .ok (.aload_n 0, 1) := by decide +kernel
theorem d_Grouping_judgeLaid_38 : decode kY_Grouping_judgeLaid.2.1 38 = .ok (.iload_n 1, 1) := by decide +kernel
theorem d_Grouping_judgeLaid_39 : decode kY_Grouping_judgeLaid.2.1 39 = .ok (.iload_n 2, 1) := by decide +kernel
theorem d_Grouping_judgeLaid_40 : decode kY_Grouping_judgeLaid.2.1 40 = .ok (.invokevirtual 56, 3) := by decide +kernel
theorem d_Grouping_judgeLaid_43 : decode kY_Grouping_judgeLaid.2.1 43 = .ok (.aload_n 0, 1) := by decide +kernel
theorem d_Grouping_judgeLaid_44 : decode kY_Grouping_judgeLaid.2.1 44 = .ok (.iload_n 2, 1) := by decide +kernel
theorem d_Grouping_judgeLaid_45 : decode kY_Grouping_judgeLaid.2.1 45 = .ok (.invokevirtual 60, 3) := by decide +kernel
theorem d_Grouping_judgeLaid_48 : decode kY_Grouping_judgeLaid.2.1 48 = .ok (.ifCond .ne 7, 3) := by decide +kernel
theorem d_Grouping_judgeLaid_55 : decode kY_Grouping_judgeLaid.2.1 55 = .ok (.iinc 1 1, 3) := by decide +kernel
theorem d_Grouping_judgeLaid_58 : decode kY_Grouping_judgeLaid.2.1 58 = .ok (.goto (-56), 3) := by decide +kernel
theorem d_Grouping_judgeLaid_51 : decode kY_Grouping_judgeLaid.2.1 51 = .ok (.ldc2_w 54, 3) := by decide +kernel
theorem d_Grouping_judgeLaid_54 : decode kY_Grouping_judgeLaid.2.1 54 = .ok (.lreturn, 1) := by decide +kernel
def w_Grouping_judgeLaid : List Nat := [759, 760, 761]
theorem tc_Grouping_judgeLaid {g : mj_G} {l : Launch} {d : Nat} {T0 : tm_H} {M0 : mj_M} {n0 x9 : Nat} {o0 : Nat} (h_o0 : T0 o0 = some (0, 7, 0)) (I0 : tm_I tm_FT (tm_in w_Grouping_judgeLaid) x9 T0 M0 n0 T0 M0 n0) : mj_Met g l kY_Grouping_judgeLaid (d + 2) [.ref o0] M0 n0 0 0 (tm_Q tm_FT (tm_in w_Grouping_judgeLaid) x9 T0 M0 n0 (fun r _ _ => ∃ v : Int64, r = some (.long v))) := by
  refine mj_enter (by decide) (Nat.le_of_ble_eq_true rfl) ?_
  refine mv_iconst (v := 0) d_Grouping_judgeLaid_0 (by decide) ?_
  refine mv_istore_n (lv' := [(1, .int 0), (0, .ref o0)]) d_Grouping_judgeLaid_1 rfl (by decide) rfl ?_
  have L2_1 : ∀ (k : Nat) (i1_1 : Int32) (T_1 : tm_H) (M_1 : mj_M) (n_1 : Nat), tm_I tm_FT (tm_in w_Grouping_judgeLaid) x9 T0 M0 n0 T_1 M_1 n_1 → T_1 o0 = some (0, 7, 0) → 0 ≤ i1_1.toInt → 2147483647 - i1_1.toInt < (k : Int) → mj_V g l kY_Grouping_judgeLaid (d + 2) 2 [(1, .int i1_1), (0, .ref o0)] [] M_1 n_1 0 0 (tm_Q tm_FT (tm_in w_Grouping_judgeLaid) x9 T0 M0 n0 (fun r _ _ => ∃ v : Int64, r = some (.long v))) := by
    intro k1
    induction k1 with
    | zero =>
      intro i1_1 T_1 M_1 n_1 I_1 h_q0_1 iv0_1 hk1
      have := mz_hi i1_1
      omega
    | succ k1 ih1 =>
      intro i1_1 T_1 M_1 n_1 I_1 h_q0_1 iv0_1 hk1
      refine mv_iload_n d_Grouping_judgeLaid_2 rfl rfl ?_
      refine mv_aload_n d_Grouping_judgeLaid_3 rfl rfl ?_
      obtain ⟨v3, q2⟩ := tm_atI I_1 h_q0_1 (k := 2) rfl
      refine tr_getK q2 d_Grouping_judgeLaid_4 f_Grouping_44_7 ?_
      have := mz_hi i1_1
      have := mz_hi v3
      refine mv_icmp_geZ (tgt := 61) (a := i1_1.toInt) (b := v3.toInt) d_Grouping_judgeLaid_7 (by decide) rfl rfl (fun b4 => ?_) (fun b4 => ?_)
      · refine mv_aload_n d_Grouping_judgeLaid_61 rfl rfl ?_
        refine mv_bipush (v := 8) d_Grouping_judgeLaid_62 (by decide) ?_
        obtain ⟨_, b11, -⟩ := I_1.1 _ _ h_q0_1
        refine mv_callV (kc' := 0) (ks' := 0) (As := [.int 8]) (st9 := [.int 8, .ref o0]) d_Grouping_judgeLaid_64 lV_Grouping_64 b11 rfl (tc_Grouping_idleOf (d := d) (x9 := x9) (o0 := o0) (x1 := 8) h_q0_1 I_1.start) rfl (Nat.le_of_ble_eq_true rfl) (Nat.le_of_ble_eq_true rfl) (Nat.le_of_ble_eq_true rfl) (hst := rfl) (fun b5r M6 n7 b5 => ?_)
        obtain ⟨T8, J9, v12, rfl⟩ := b5
        have I10 := I_1.call J9 (tm_sub (by decide)) (Or.inl rfl)
        have t13 := J9.up h_q0_1
        have q14 := J9.keep h_q0_1 (by decide) q2
        exact mv_lret d_Grouping_judgeLaid_67 rfl ⟨_, I10, _, rfl⟩
      · refine mv_iload_n d_Grouping_judgeLaid_10 rfl rfl ?_
        refine mv_bipush (v := 8) d_Grouping_judgeLaid_11 (by decide) ?_
        have := mz_hi i1_1
        refine mv_icmp_geZ (tgt := 61) (a := i1_1.toInt) (b := 8) d_Grouping_judgeLaid_13 (by decide) rfl (by decide) (fun b15 => ?_) (fun b15 => ?_)
        · refine mv_aload_n d_Grouping_judgeLaid_61 rfl rfl ?_
          refine mv_bipush (v := 8) d_Grouping_judgeLaid_62 (by decide) ?_
          obtain ⟨_, b22, -⟩ := I_1.1 _ _ h_q0_1
          refine mv_callV (kc' := 0) (ks' := 0) (As := [.int 8]) (st9 := [.int 8, .ref o0]) d_Grouping_judgeLaid_64 lV_Grouping_64 b22 rfl (tc_Grouping_idleOf (d := d) (x9 := x9) (o0 := o0) (x1 := 8) h_q0_1 I_1.start) rfl (Nat.le_of_ble_eq_true rfl) (Nat.le_of_ble_eq_true rfl) (Nat.le_of_ble_eq_true rfl) (hst := rfl) (fun b16r M17 n18 b16 => ?_)
          obtain ⟨T19, J20, v23, rfl⟩ := b16
          have I21 := I_1.call J20 (tm_sub (by decide)) (Or.inl rfl)
          have t24 := J20.up h_q0_1
          have q25 := J20.keep h_q0_1 (by decide) q2
          exact mv_lret d_Grouping_judgeLaid_67 rfl ⟨_, I21, _, rfl⟩
        · refine mv_aload_n d_Grouping_judgeLaid_16 rfl rfl ?_
          obtain ⟨a27, q26, t_a27⟩ := tm_atR I_1 h_q0_1 (k := 6) rfl
          refine tr_getK q26 d_Grouping_judgeLaid_17 f_Grouping_19_7 ?_
          refine mv_iload_n d_Grouping_judgeLaid_20 rfl rfl ?_
          refine tr_iald I_1 t_a27 (by decide) d_Grouping_judgeLaid_21 (vp_in_iff.mpr (by omega)) (fun v28 => ?_)
          refine mv_istore_n (lv' := [(2, .int v28), (1, .int i1_1), (0, .ref o0)]) d_Grouping_judgeLaid_22 rfl (by decide) rfl ?_
          refine mv_iload_n d_Grouping_judgeLaid_23 rfl rfl ?_
          have := mz_hi v28
          refine mv_if_ltZ (tgt := 33) (a := v28.toInt) d_Grouping_judgeLaid_24 (by decide) rfl (fun b29 => ?_) (fun b29 => ?_)
          · refine mv_ldc2 d_Grouping_judgeLaid_33 k_Grouping_54 ?_
            exact mv_lret d_Grouping_judgeLaid_36 rfl ⟨_, I_1, _, rfl⟩
          · refine mv_iload_n d_Grouping_judgeLaid_27 rfl rfl ?_
            refine mv_bipush (v := 8) d_Grouping_judgeLaid_28 (by decide) ?_
            have := mz_hi v28
            refine mv_icmp_ltZ (tgt := 37) (a := v28.toInt) (b := 8) d_Grouping_judgeLaid_30 (by decide) rfl (by decide) (fun b30 => ?_) (fun b30 => ?_)
            · refine mv_aload_n d_Grouping_judgeLaid_37 rfl rfl ?_
              refine mv_iload_n d_Grouping_judgeLaid_38 rfl rfl ?_
              refine mv_iload_n d_Grouping_judgeLaid_39 rfl rfl ?_
              obtain ⟨_, b37, -⟩ := I_1.1 _ _ h_q0_1
              refine mv_callV (kc' := 0) (ks' := 0) (As := [.int i1_1, .int v28]) (st9 := [.int v28, .int i1_1, .ref o0]) d_Grouping_judgeLaid_40 lV_Grouping_56 b37 rfl (tc_Grouping_put (d := (d + 1)) (x9 := x9) (o0 := o0) (x1 := i1_1) (x2 := v28) h_q0_1 I_1.start) rfl (Nat.le_of_ble_eq_true rfl) (Nat.le_of_ble_eq_true rfl) (Nat.le_of_ble_eq_true rfl) (hst := rfl) (fun b31r M32 n33 b31 => ?_)
              obtain ⟨T34, J35, rfl⟩ := b31
              have I36 := I_1.call J35 (tm_sub (by decide)) (Or.inl rfl)
              have t38 := J35.up h_q0_1
              have q39 := J35.keep h_q0_1 (by decide) q2
              have q40 := J35.keep h_q0_1 (by decide) q26
              have t41 := J35.up t_a27
              refine mv_aload_n d_Grouping_judgeLaid_43 rfl rfl ?_
              refine mv_iload_n d_Grouping_judgeLaid_44 rfl rfl ?_
              obtain ⟨_, b48, -⟩ := I36.1 _ _ t38
              refine mv_callV (kc' := 0) (ks' := 0) (As := [.int v28]) (st9 := [.int v28, .ref o0]) d_Grouping_judgeLaid_45 lV_Grouping_60 b48 rfl (tc_Grouping_holdsTogether (d := d) (x9 := x9) (o0 := o0) (x1 := v28) t38 I36.start) rfl (Nat.le_of_ble_eq_true rfl) (Nat.le_of_ble_eq_true rfl) (Nat.le_of_ble_eq_true rfl) (hst := rfl) (fun b42r M43 n44 b42 => ?_)
              obtain ⟨T45, J46, v49, rfl, b50, b51⟩ := b42
              have I47 := I36.call J46 (tm_sub (by decide)) (Or.inl rfl)
              have t52 := J46.up t38
              have q53 := J46.keep t38 (by decide) q39
              have q54 := J46.keep t38 (by decide) q40
              have t55 := J46.up t41
              have := mz_hi v49
              refine mv_if_neZ (tgt := 55) (a := v49.toInt) d_Grouping_judgeLaid_48 (by decide) rfl (fun b56 => ?_) (fun b56 => ?_)
              · refine mv_iinc (v := (i1_1 + 1)) (lv' := [(1, .int (i1_1 + 1)), (2, .int v28), (0, .ref o0)]) d_Grouping_judgeLaid_55 rfl rfl (by decide) rfl ?_
                refine mv_goto (tgt := 2) d_Grouping_judgeLaid_58 (by decide) ?_
                refine mv_locals (lv' := [(1, .int (i1_1 + 1)), (0, .ref o0)]) (by intro q hq; simp only [List.mem_cons, List.not_mem_nil, or_false] at hq; rcases hq with rfl | rfl <;> rfl) ?_
                have b57 : (i1_1 + 1).toInt = i1_1.toInt + 1 := mz_addn 1 1 (by decide) (by have := mz_lo i1_1; omega) (by have := mz_hi i1_1; omega)
                exact (ih1 (i1_1 + 1) T45 M43 n44 I47 t52 (by first | omega | decide) (by omega))
              · refine mv_ldc2 d_Grouping_judgeLaid_51 k_Grouping_54 ?_
                exact mv_lret d_Grouping_judgeLaid_54 rfl ⟨_, I47, _, rfl⟩
            · refine mv_ldc2 d_Grouping_judgeLaid_33 k_Grouping_54 ?_
              exact mv_lret d_Grouping_judgeLaid_36 rfl ⟨_, I_1, _, rfl⟩
  exact mv_less (Nat.zero_le _) (Nat.zero_le _) (L2_1 4294967296 0 T0 M0 n0 I0 h_o0 (by first | omega | decide) (by show (2147483647 - (0 : Int) : Int) < _; decide))
theorem lV_TrustDesk_492 : mj_lV "TrustDesk" 492 kY_Grouping_judgeLaid 0 := ⟨⟨(mj_in1 (List.mem_of_getElem? (i := 1281) (by decide +kernel)) rfl), (mj_in1 (List.mem_of_getElem? (i := 5) (by decide +kernel)) rfl), (mj_in1 (List.mem_of_getElem? (i := 1284) (by decide +kernel)) rfl), by decide, rfl, by decide⟩, (mj_in1 (List.mem_of_getElem? (i := 1282) (by decide +kernel)) rfl), (mj_in1 (List.mem_of_getElem? (i := 1283) (by decide +kernel)) rfl)⟩
theorem d_TrustDesk_judge_19 : decode kY_TrustDesk_judge.2.1 19 = .ok (.lreturn, 1) := by decide +kernel
theorem d_TrustDesk_judge_8 : decode kY_TrustDesk_judge.2.1 8 = .ok (.ldc2_w 463, 3) := by decide +kernel
theorem d_TrustDesk_judge_11 : decode kY_TrustDesk_judge.2.1 11 = .ok (.lreturn, 1) := by decide +kernel
def w_TrustDesk_judge : List Nat := [700, 701, 702, 703, 754, 755, 756, 759, 760, 761, 1001, 1003, 1004, 1050, 1052]
theorem tc_TrustDesk_judge {g : mj_G} {l : Launch} {d : Nat} {T0 : tm_H} {M0 : mj_M} {n0 x9 : Nat} {o0 : Nat} {x1 : Int32} (h_o0 : T0 o0 = some (0, 12, 0)) (I0 : tm_I tm_FT (tm_in w_TrustDesk_judge) x9 T0 M0 n0 T0 M0 n0) : mj_Met g l kY_TrustDesk_judge (d + 6) [.ref o0, .int x1] M0 n0 0 0 (tm_Q tm_FT (tm_in w_TrustDesk_judge) x9 T0 M0 n0 (fun r _ _ => ∃ v : Int64, r = some (.long v))) := by
  refine mj_enter (by decide) (Nat.le_of_ble_eq_true rfl) ?_
  refine mv_aload_n d_TrustDesk_judge_0 rfl rfl ?_
  refine mv_iload_n d_TrustDesk_judge_1 rfl rfl ?_
  obtain ⟨_, b7, -⟩ := I0.1 _ _ h_o0
  refine mv_callV (kc' := 0) (ks' := 0) (As := [.int x1]) (st9 := [.int x1, .ref o0]) d_TrustDesk_judge_2 lV_TrustDesk_477 b7 rfl (tc_TrustDesk_gather (d := d) (x9 := x9) (o0 := o0) (x1 := x1) h_o0 I0.start) rfl (Nat.le_of_ble_eq_true rfl) (Nat.le_of_ble_eq_true rfl) (Nat.le_of_ble_eq_true rfl) (hst := rfl) (fun b1r M2 n3 b1 => ?_)
  obtain ⟨T4, J5, v8, rfl, b9, b10⟩ := b1
  have I6 := I0.call J5 (tm_sub (by decide)) (Or.inl rfl)
  have t11 := J5.up h_o0
  have := mz_hi v8
  refine mv_if_neZ (tgt := 12) (a := v8.toInt) d_TrustDesk_judge_5 (by decide) rfl (fun b12 => ?_) (fun b12 => ?_)
  · refine mv_aload_n d_TrustDesk_judge_12 rfl rfl ?_
    obtain ⟨a14, q13, t_a14⟩ := tm_atR I6 t11 (k := 3) rfl
    refine tr_getK q13 d_TrustDesk_judge_13 f_TrustDesk_33_12 ?_
    obtain ⟨_, b21, -⟩ := I6.1 _ _ t_a14
    refine mv_callV (kc' := 0) (ks' := 0) (As := []) (st9 := [.ref a14]) d_TrustDesk_judge_16 lV_TrustDesk_492 b21 rfl (tc_Grouping_judgeLaid (d := (d + 3)) (x9 := x9) (o0 := a14) t_a14 I6.start) rfl (Nat.le_of_ble_eq_true rfl) (Nat.le_of_ble_eq_true rfl) (Nat.le_of_ble_eq_true rfl) (hst := rfl) (fun b15r M16 n17 b15 => ?_)
    obtain ⟨T18, J19, v22, rfl⟩ := b15
    have I20 := I6.call J19 (tm_sub (by decide)) (Or.inl rfl)
    have t23 := J19.up t11
    have q24 := J19.keep t11 (by decide) q13
    have t25 := J19.up t_a14
    exact mv_lret d_TrustDesk_judge_19 rfl ⟨_, I20, _, rfl⟩
  · refine mv_ldc2 d_TrustDesk_judge_8 k_TrustDesk_463 ?_
    exact mv_lret d_TrustDesk_judge_11 rfl ⟨_, I6, _, rfl⟩
abbrev kY_TrustDesk_lay : mj_Y := (⟨"TrustDesk", "lay", "(II)Z"⟩, prog_1_method_51_code, 4, (Option.some Jvm.ClassFile.FieldType.boolean))
theorem d_TrustDesk_lay_0 : decode kY_TrustDesk_lay.2.1 0 = .ok (.aload_n 0, 1) := by decide +kernel
theorem d_TrustDesk_lay_1 : decode kY_TrustDesk_lay.2.1 1 = .ok (.iload_n 1, 1) := by decide +kernel
theorem d_TrustDesk_lay_2 : decode kY_TrustDesk_lay.2.1 2 = .ok (.invokevirtual 257, 3) := by decide +kernel
theorem d_TrustDesk_lay_5 : decode kY_TrustDesk_lay.2.1 5 = .ok (.astore_n 3, 1) := by decide +kernel
theorem d_TrustDesk_lay_6 : decode kY_TrustDesk_lay.2.1 6 = .ok (.aload_n 3, 1) := by decide +kernel
theorem d_TrustDesk_lay_7 : decode kY_TrustDesk_lay.2.1 7 = .ok (.ifnull 13, 3) := by decide +kernel
theorem d_TrustDesk_lay_20 : decode kY_TrustDesk_lay.2.1 20 = .ok (.iconst 0, 1) := by decide +kernel
theorem d_TrustDesk_lay_21 : decode kY_TrustDesk_lay.2.1 21 = .ok (.ireturn, 1) := by decide +kernel
theorem d_TrustDesk_lay_10 : decode kY_TrustDesk_lay.2.1 10 = .ok (.iload_n 2, 1) := by decide +kernel
theorem d_TrustDesk_lay_11 : decode kY_TrustDesk_lay.2.1 11 = .ok (.ifCond .lt 9, 3) := by decide +kernel
theorem d_TrustDesk_lay_14 : decode kY_TrustDesk_lay.2.1 14 = .ok (.iload_n 2, 1) := by decide +kernel
theorem d_TrustDesk_lay_15 : decode kY_TrustDesk_lay.2.1 15 = .ok (.bipush 8, 2) := by decide +kernel
theorem d_TrustDesk_lay_17 : decode kY_TrustDesk_lay.2.1 17 = .ok (.if_icmp .lt 5, 3) := by decide +kernel
theorem d_TrustDesk_lay_22 : decode kY_TrustDesk_lay.2.1 22 = .ok (.aload_n 3, 1) := by decide +kernel
theorem d_TrustDesk_lay_23 : decode kY_TrustDesk_lay.2.1 23 = .ok (.iload_n 2, 1) := by decide +kernel
theorem d_TrustDesk_lay_24 : decode kY_TrustDesk_lay.2.1 24 = .ok (.putfield 489, 3) := by decide +kernel
theorem p_TrustDesk_489_6 : mj_fp "TrustDesk" 489 6 9 (kt_Fund 9) false := ⟨kR_Fund, kF_Fund, 15, "TrustDesk$Fund", kt_Fund, rfl, kg_6, by decide, (mj_in1 (List.mem_of_getElem? (i := 686) (by decide +kernel)) rfl), Or.inl rfl, kto_Fund, kn_Fund, rfl, rfl, fun h => by cases h⟩
theorem d_TrustDesk_lay_27 : decode kY_TrustDesk_lay.2.1 27 = .ok (.iconst 1, 1) := by decide +kernel
theorem d_TrustDesk_lay_28 : decode kY_TrustDesk_lay.2.1 28 = .ok (.ireturn, 1) := by decide +kernel
abbrev kY_TrustDesk_marks : mj_Y := (⟨"TrustDesk", "marks", "(III)I"⟩, prog_1_method_48_code, 6, (Option.some Jvm.ClassFile.FieldType.int))
theorem d_TrustDesk_marks_0 : decode kY_TrustDesk_marks.2.1 0 = .ok (.aload_n 0, 1) := by decide +kernel
theorem d_TrustDesk_marks_1 : decode kY_TrustDesk_marks.2.1 1 = .ok (.iload_n 1, 1) := by decide +kernel
theorem d_TrustDesk_marks_2 : decode kY_TrustDesk_marks.2.1 2 = .ok (.invokevirtual 257, 3) := by decide +kernel
theorem d_TrustDesk_marks_5 : decode kY_TrustDesk_marks.2.1 5 = .ok (.astore 4, 2) := by decide +kernel
theorem d_TrustDesk_marks_7 : decode kY_TrustDesk_marks.2.1 7 = .ok (.aload_n 0, 1) := by decide +kernel
theorem d_TrustDesk_marks_8 : decode kY_TrustDesk_marks.2.1 8 = .ok (.iload_n 2, 1) := by decide +kernel
theorem d_TrustDesk_marks_9 : decode kY_TrustDesk_marks.2.1 9 = .ok (.invokevirtual 276, 3) := by decide +kernel
theorem d_TrustDesk_marks_12 : decode kY_TrustDesk_marks.2.1 12 = .ok (.astore 5, 2) := by decide +kernel
theorem d_TrustDesk_marks_14 : decode kY_TrustDesk_marks.2.1 14 = .ok (.aload 4, 2) := by decide +kernel
theorem d_TrustDesk_marks_16 : decode kY_TrustDesk_marks.2.1 16 = .ok (.ifnull 17, 3) := by decide +kernel
theorem d_TrustDesk_marks_33 : decode kY_TrustDesk_marks.2.1 33 = .ok (.iconst (-1), 1) := by decide +kernel
theorem d_TrustDesk_marks_34 : decode kY_TrustDesk_marks.2.1 34 = .ok (.ireturn, 1) := by decide +kernel
theorem d_TrustDesk_marks_19 : decode kY_TrustDesk_marks.2.1 19 = .ok (.aload 5, 2) := by decide +kernel
theorem d_TrustDesk_marks_21 : decode kY_TrustDesk_marks.2.1 21 = .ok (.ifnull 12, 3) := by decide +kernel
theorem d_TrustDesk_marks_24 : decode kY_TrustDesk_marks.2.1 24 = .ok (.iload_n 3, 1) := by decide +kernel
theorem d_TrustDesk_marks_25 : decode kY_TrustDesk_marks.2.1 25 = .ok (.ifCond .lt 8, 3) := by decide +kernel
theorem d_TrustDesk_marks_28 : decode kY_TrustDesk_marks.2.1 28 = .ok (.iload_n 3, 1) := by decide +kernel
theorem d_TrustDesk_marks_29 : decode kY_TrustDesk_marks.2.1 29 = .ok (.iconst 1, 1) := by decide +kernel
theorem d_TrustDesk_marks_30 : decode kY_TrustDesk_marks.2.1 30 = .ok (.if_icmp .le 5, 3) := by decide +kernel
theorem d_TrustDesk_marks_35 : decode kY_TrustDesk_marks.2.1 35 = .ok (.aload 4, 2) := by decide +kernel
theorem d_TrustDesk_marks_37 : decode kY_TrustDesk_marks.2.1 37 = .ok (.getfield 372, 3) := by decide +kernel
theorem d_TrustDesk_marks_40 : decode kY_TrustDesk_marks.2.1 40 = .ok (.iload_n 3, 1) := by decide +kernel
theorem d_TrustDesk_marks_41 : decode kY_TrustDesk_marks.2.1 41 = .ok (.ifCond .ne 11, 3) := by decide +kernel
theorem d_TrustDesk_marks_52 : decode kY_TrustDesk_marks.2.1 52 = .ok (.aload 5, 2) := by decide +kernel
theorem d_TrustDesk_marks_54 : decode kY_TrustDesk_marks.2.1 54 = .ok (.getfield 383, 3) := by decide +kernel
theorem d_TrustDesk_marks_57 : decode kY_TrustDesk_marks.2.1 57 = .ok (.iconst (-1), 1) := by decide +kernel
theorem d_TrustDesk_marks_58 : decode kY_TrustDesk_marks.2.1 58 = .ok (.ixor, 1) := by decide +kernel
theorem d_TrustDesk_marks_59 : decode kY_TrustDesk_marks.2.1 59 = .ok (.iand, 1) := by decide +kernel
theorem d_TrustDesk_marks_60 : decode kY_TrustDesk_marks.2.1 60 = .ok (.invokestatic 337, 3) := by decide +kernel
theorem d_TrustDesk_marks_63 : decode kY_TrustDesk_marks.2.1 63 = .ok (.ireturn, 1) := by decide +kernel
theorem d_TrustDesk_marks_44 : decode kY_TrustDesk_marks.2.1 44 = .ok (.aload 5, 2) := by decide +kernel
theorem d_TrustDesk_marks_46 : decode kY_TrustDesk_marks.2.1 46 = .ok (.getfield 383, 3) := by decide +kernel
theorem d_TrustDesk_marks_49 : decode kY_TrustDesk_marks.2.1 49 = .ok (.goto 10, 3) := by decide +kernel
def w_TrustDesk_marks : List Nat := []
theorem tc_TrustDesk_marks {g : mj_G} {l : Launch} {d : Nat} {T0 : tm_H} {M0 : mj_M} {n0 x9 : Nat} {o0 : Nat} {x1 : Int32} {x2 : Int32} {x3 : Int32} (h_o0 : T0 o0 = some (0, 12, 0)) (I0 : tm_I tm_FT (tm_in w_TrustDesk_marks) x9 T0 M0 n0 T0 M0 n0) : mj_Met g l kY_TrustDesk_marks (d + 4) [.ref o0, .int x1, .int x2, .int x3] M0 n0 0 0 (tm_Q tm_FT (tm_in w_TrustDesk_marks) x9 T0 M0 n0 (fun r _ _ => ∃ v : Int32, r = some (.int v))) := by
  refine mj_enter (by decide) (Nat.le_of_ble_eq_true rfl) ?_
  refine mv_aload_n d_TrustDesk_marks_0 rfl rfl ?_
  refine mv_iload_n d_TrustDesk_marks_1 rfl rfl ?_
  obtain ⟨_, b7, -⟩ := I0.1 _ _ h_o0
  refine mv_callV (kc' := 0) (ks' := 0) (As := [.int x1]) (st9 := [.int x1, .ref o0]) d_TrustDesk_marks_2 lV_TrustDesk_257 b7 rfl (tc_TrustDesk_fundAt (d := d) (x9 := x9) (o0 := o0) (x1 := x1) h_o0 I0.start) rfl (Nat.le_of_ble_eq_true rfl) (Nat.le_of_ble_eq_true rfl) (Nat.le_of_ble_eq_true rfl) (hst := rfl) (fun b1r M2 n3 b1 => ?_)
  obtain ⟨T4, J5, b9⟩ := b1
  have I6 := I0.call J5 (tm_sub (by decide)) (Or.inl rfl)
  have t10 := J5.up h_o0
  rcases b9 with rfl | ⟨a8, rfl, t_a8⟩
  · refine mv_astoreN (lv' := [(4, .null), (0, .ref o0), (1, .int x1), (2, .int x2), (3, .int x3)]) d_TrustDesk_marks_5 (by decide) rfl ?_
    refine mv_aload_n d_TrustDesk_marks_7 rfl rfl ?_
    refine mv_iload_n d_TrustDesk_marks_8 rfl rfl ?_
    obtain ⟨_, b17, -⟩ := I6.1 _ _ t10
    refine mv_callV (kc' := 0) (ks' := 0) (As := [.int x2]) (st9 := [.int x2, .ref o0]) d_TrustDesk_marks_9 lV_TrustDesk_276 b17 rfl (tc_TrustDesk_nearAt (d := d) (x9 := x9) (o0 := o0) (x1 := x2) t10 I6.start) rfl (Nat.le_of_ble_eq_true rfl) (Nat.le_of_ble_eq_true rfl) (Nat.le_of_ble_eq_true rfl) (hst := rfl) (fun b11r M12 n13 b11 => ?_)
    obtain ⟨T14, J15, b19⟩ := b11
    have I16 := I6.call J15 (tm_sub (by decide)) (Or.inl rfl)
    have t20 := J15.up t10
    rcases b19 with rfl | ⟨a18, rfl, t_a18⟩
    · refine mv_astoreN (lv' := [(5, .null), (4, .null), (0, .ref o0), (1, .int x1), (2, .int x2), (3, .int x3)]) d_TrustDesk_marks_12 (by decide) rfl ?_
      refine mv_aloadN d_TrustDesk_marks_14 rfl ?_
      refine mv_ifnullN (tgt := 33) d_TrustDesk_marks_16 (by decide) ?_
      refine mv_iconst (v := (-1)) d_TrustDesk_marks_33 (by decide) ?_
      exact mv_iret d_TrustDesk_marks_34 rfl (by first | rfl | decide) ⟨_, I16, _, rfl⟩
    · refine mv_astore (lv' := [(5, .ref a18), (4, .null), (0, .ref o0), (1, .int x1), (2, .int x2), (3, .int x3)]) d_TrustDesk_marks_12 (by decide) rfl ?_
      refine mv_aloadN d_TrustDesk_marks_14 rfl ?_
      refine mv_ifnullN (tgt := 33) d_TrustDesk_marks_16 (by decide) ?_
      refine mv_iconst (v := (-1)) d_TrustDesk_marks_33 (by decide) ?_
      exact mv_iret d_TrustDesk_marks_34 rfl (by first | rfl | decide) ⟨_, I16, _, rfl⟩
  · refine mv_astore (lv' := [(4, .ref a8), (0, .ref o0), (1, .int x1), (2, .int x2), (3, .int x3)]) d_TrustDesk_marks_5 (by decide) rfl ?_
    refine mv_aload_n d_TrustDesk_marks_7 rfl rfl ?_
    refine mv_iload_n d_TrustDesk_marks_8 rfl rfl ?_
    obtain ⟨_, b27, -⟩ := I6.1 _ _ t10
    refine mv_callV (kc' := 0) (ks' := 0) (As := [.int x2]) (st9 := [.int x2, .ref o0]) d_TrustDesk_marks_9 lV_TrustDesk_276 b27 rfl (tc_TrustDesk_nearAt (d := d) (x9 := x9) (o0 := o0) (x1 := x2) t10 I6.start) rfl (Nat.le_of_ble_eq_true rfl) (Nat.le_of_ble_eq_true rfl) (Nat.le_of_ble_eq_true rfl) (hst := rfl) (fun b21r M22 n23 b21 => ?_)
    obtain ⟨T24, J25, b29⟩ := b21
    have I26 := I6.call J25 (tm_sub (by decide)) (Or.inl rfl)
    have t30 := J25.up t_a8
    have t31 := J25.up t10
    rcases b29 with rfl | ⟨a28, rfl, t_a28⟩
    · refine mv_astoreN (lv' := [(5, .null), (4, .ref a8), (0, .ref o0), (1, .int x1), (2, .int x2), (3, .int x3)]) d_TrustDesk_marks_12 (by decide) rfl ?_
      refine mv_aload d_TrustDesk_marks_14 rfl ?_
      refine mv_ifnull d_TrustDesk_marks_16 ?_
      refine mv_aloadN d_TrustDesk_marks_19 rfl ?_
      refine mv_ifnullN (tgt := 33) d_TrustDesk_marks_21 (by decide) ?_
      refine mv_iconst (v := (-1)) d_TrustDesk_marks_33 (by decide) ?_
      exact mv_iret d_TrustDesk_marks_34 rfl (by first | rfl | decide) ⟨_, I26, _, rfl⟩
    · refine mv_astore (lv' := [(5, .ref a28), (4, .ref a8), (0, .ref o0), (1, .int x1), (2, .int x2), (3, .int x3)]) d_TrustDesk_marks_12 (by decide) rfl ?_
      refine mv_aload d_TrustDesk_marks_14 rfl ?_
      refine mv_ifnull d_TrustDesk_marks_16 ?_
      refine mv_aload d_TrustDesk_marks_19 rfl ?_
      refine mv_ifnull d_TrustDesk_marks_21 ?_
      refine mv_iload_n d_TrustDesk_marks_24 rfl rfl ?_
      have := mz_hi x3
      refine mv_if_ltZ (tgt := 33) (a := x3.toInt) d_TrustDesk_marks_25 (by decide) rfl (fun b32 => ?_) (fun b32 => ?_)
      · refine mv_iconst (v := (-1)) d_TrustDesk_marks_33 (by decide) ?_
        exact mv_iret d_TrustDesk_marks_34 rfl (by first | rfl | decide) ⟨_, I26, _, rfl⟩
      · refine mv_iload_n d_TrustDesk_marks_28 rfl rfl ?_
        refine mv_iconst (v := 1) d_TrustDesk_marks_29 (by decide) ?_
        have := mz_hi x3
        refine mv_icmp_leZ (tgt := 35) (a := x3.toInt) (b := 1) d_TrustDesk_marks_30 (by decide) rfl (by decide) (fun b33 => ?_) (fun b33 => ?_)
        · refine mv_aload d_TrustDesk_marks_35 rfl ?_
          obtain ⟨v35, q34⟩ := tm_atI I26 t30 (k := 4) rfl
          refine tr_getK q34 d_TrustDesk_marks_37 f_TrustDesk_372_6 ?_
          refine mv_iload_n d_TrustDesk_marks_40 rfl rfl ?_
          have := mz_hi x3
          refine mv_if_neZ (tgt := 52) (a := x3.toInt) d_TrustDesk_marks_41 (by decide) rfl (fun b36 => ?_) (fun b36 => ?_)
          · refine mv_aload d_TrustDesk_marks_52 rfl ?_
            obtain ⟨v38, q37⟩ := tm_atI I26 t_a28 (k := 1) rfl
            refine tr_getK q37 d_TrustDesk_marks_54 f_TrustDesk_383_8 ?_
            refine mv_iconst (v := (-1)) d_TrustDesk_marks_57 (by decide) ?_
            refine mv_ixor d_TrustDesk_marks_58 ?_
            refine mv_iand d_TrustDesk_marks_59 ?_
            refine mv_callS (kc' := 0) (ks' := 0) (As := [.int (v35 &&& (v38 ^^^ (-1)))]) (st9 := [.int (v35 &&& (v38 ^^^ (-1)))]) d_TrustDesk_marks_60 lS_TrustDesk_337 (tc_Integer_bitCount (d := (d + 3)) (x9 := x9) (x1 := (v35 &&& (v38 ^^^ (-1))))  I26.start) rfl (Nat.le_of_ble_eq_true rfl) (Nat.le_of_ble_eq_true rfl) (Nat.le_of_ble_eq_true rfl) (hst := rfl) (fun b39r M40 n41 b39 => ?_)
            obtain ⟨T42, J43, v45, rfl⟩ := b39
            have I44 := I26.call J43 (tm_sub (by decide)) (Or.inl rfl)
            have t46 := J43.up t_a28
            have t47 := J43.up t30
            have t48 := J43.up t31
            have q49 := J43.keep t30 (by decide) q34
            have q50 := J43.keep t_a28 (by decide) q37
            exact mv_iret d_TrustDesk_marks_63 rfl (by first | rfl | decide) ⟨_, I44, _, rfl⟩
          · refine mv_aload d_TrustDesk_marks_44 rfl ?_
            obtain ⟨v52, q51⟩ := tm_atI I26 t_a28 (k := 1) rfl
            refine tr_getK q51 d_TrustDesk_marks_46 f_TrustDesk_383_8 ?_
            refine mv_goto (tgt := 59) d_TrustDesk_marks_49 (by decide) ?_
            refine mv_iand d_TrustDesk_marks_59 ?_
            refine mv_callS (kc' := 0) (ks' := 0) (As := [.int (v35 &&& v52)]) (st9 := [.int (v35 &&& v52)]) d_TrustDesk_marks_60 lS_TrustDesk_337 (tc_Integer_bitCount (d := (d + 3)) (x9 := x9) (x1 := (v35 &&& v52))  I26.start) rfl (Nat.le_of_ble_eq_true rfl) (Nat.le_of_ble_eq_true rfl) (Nat.le_of_ble_eq_true rfl) (hst := rfl) (fun b53r M54 n55 b53 => ?_)
            obtain ⟨T56, J57, v59, rfl⟩ := b53
            have I58 := I26.call J57 (tm_sub (by decide)) (Or.inl rfl)
            have t60 := J57.up t_a28
            have t61 := J57.up t30
            have t62 := J57.up t31
            have q63 := J57.keep t30 (by decide) q34
            have q64 := J57.keep t_a28 (by decide) q51
            exact mv_iret d_TrustDesk_marks_63 rfl (by first | rfl | decide) ⟨_, I58, _, rfl⟩
        · refine mv_iconst (v := (-1)) d_TrustDesk_marks_33 (by decide) ?_
          exact mv_iret d_TrustDesk_marks_34 rfl (by first | rfl | decide) ⟨_, I26, _, rfl⟩
abbrev kY_TrustDesk_maySpeak : mj_Y := (⟨"TrustDesk", "maySpeak", "(LTrustDesk$Scheme;I)Z"⟩, prog_1_method_23_code, 5, (Option.some Jvm.ClassFile.FieldType.boolean))
theorem d_TrustDesk_maySpeak_0 : decode kY_TrustDesk_maySpeak.2.1 0 = .ok (.aload_n 0, 1) := by decide +kernel
theorem d_TrustDesk_maySpeak_1 : decode kY_TrustDesk_maySpeak.2.1 1 = .ok (.aload_n 1, 1) := by decide +kernel
theorem d_TrustDesk_maySpeak_2 : decode kY_TrustDesk_maySpeak.2.1 2 = .ok (.getfield 302, 3) := by decide +kernel
theorem d_TrustDesk_maySpeak_5 : decode kY_TrustDesk_maySpeak.2.1 5 = .ok (.invokevirtual 257, 3) := by decide +kernel
theorem d_TrustDesk_maySpeak_8 : decode kY_TrustDesk_maySpeak.2.1 8 = .ok (.astore_n 3, 1) := by decide +kernel
theorem d_TrustDesk_maySpeak_9 : decode kY_TrustDesk_maySpeak.2.1 9 = .ok (.aload_n 3, 1) := by decide +kernel
theorem d_TrustDesk_maySpeak_10 : decode kY_TrustDesk_maySpeak.2.1 10 = .ok (.ifnull 13, 3) := by decide +kernel
theorem d_TrustDesk_maySpeak_23 : decode kY_TrustDesk_maySpeak.2.1 23 = .ok (.aload_n 1, 1) := by decide +kernel
theorem d_TrustDesk_maySpeak_24 : decode kY_TrustDesk_maySpeak.2.1 24 = .ok (.getfield 308, 3) := by decide +kernel
theorem d_TrustDesk_maySpeak_27 : decode kY_TrustDesk_maySpeak.2.1 27 = .ok (.iconst 1, 1) := by decide +kernel
theorem d_TrustDesk_maySpeak_28 : decode kY_TrustDesk_maySpeak.2.1 28 = .ok (.if_icmp .ne 14, 3) := by decide +kernel
theorem d_TrustDesk_maySpeak_42 : decode kY_TrustDesk_maySpeak.2.1 42 = .ok (.aconst_null, 1) := by decide +kernel
theorem d_TrustDesk_maySpeak_43 : decode kY_TrustDesk_maySpeak.2.1 43 = .ok (.astore 4, 2) := by decide +kernel
theorem d_TrustDesk_maySpeak_45 : decode kY_TrustDesk_maySpeak.2.1 45 = .ok (.aload 4, 2) := by decide +kernel
theorem d_TrustDesk_maySpeak_47 : decode kY_TrustDesk_maySpeak.2.1 47 = .ok (.ifnull 16, 3) := by decide +kernel
theorem d_TrustDesk_maySpeak_63 : decode kY_TrustDesk_maySpeak.2.1 63 = .ok (.iconst 0, 1) := by decide +kernel
theorem d_TrustDesk_maySpeak_64 : decode kY_TrustDesk_maySpeak.2.1 64 = .ok (.ireturn, 1) := by decide +kernel
theorem d_TrustDesk_maySpeak_31 : decode kY_TrustDesk_maySpeak.2.1 31 = .ok (.aload_n 0, 1) := by decide +kernel
theorem d_TrustDesk_maySpeak_32 : decode kY_TrustDesk_maySpeak.2.1 32 = .ok (.aload_n 1, 1) := by decide +kernel
theorem d_TrustDesk_maySpeak_33 : decode kY_TrustDesk_maySpeak.2.1 33 = .ok (.getfield 311, 3) := by decide +kernel
theorem d_TrustDesk_maySpeak_36 : decode kY_TrustDesk_maySpeak.2.1 36 = .ok (.invokevirtual 257, 3) := by decide +kernel
theorem d_TrustDesk_maySpeak_39 : decode kY_TrustDesk_maySpeak.2.1 39 = .ok (.goto 4, 3) := by decide +kernel
theorem d_TrustDesk_maySpeak_50 : decode kY_TrustDesk_maySpeak.2.1 50 = .ok (.aload 4, 2) := by decide +kernel
theorem d_TrustDesk_maySpeak_52 : decode kY_TrustDesk_maySpeak.2.1 52 = .ok (.iload_n 2, 1) := by decide +kernel
theorem d_TrustDesk_maySpeak_53 : decode kY_TrustDesk_maySpeak.2.1 53 = .ok (.invokevirtual 305, 3) := by decide +kernel
theorem lV_TrustDesk_305 : mj_lV "TrustDesk" 305 kY_Fund_hasTrustee 1 := ⟨⟨(mj_in1 (List.mem_of_getElem? (i := 1041) (by decide +kernel)) rfl), (mj_in1 (List.mem_of_getElem? (i := 21) (by decide +kernel)) rfl), (mj_in1 (List.mem_of_getElem? (i := 1044) (by decide +kernel)) rfl), by decide, rfl, by decide⟩, (mj_in1 (List.mem_of_getElem? (i := 1042) (by decide +kernel)) rfl), (mj_in1 (List.mem_of_getElem? (i := 1043) (by decide +kernel)) rfl)⟩
theorem d_TrustDesk_maySpeak_56 : decode kY_TrustDesk_maySpeak.2.1 56 = .ok (.ifCond .eq 7, 3) := by decide +kernel
theorem d_TrustDesk_maySpeak_59 : decode kY_TrustDesk_maySpeak.2.1 59 = .ok (.iconst 1, 1) := by decide +kernel
theorem d_TrustDesk_maySpeak_60 : decode kY_TrustDesk_maySpeak.2.1 60 = .ok (.goto 4, 3) := by decide +kernel
theorem d_TrustDesk_maySpeak_13 : decode kY_TrustDesk_maySpeak.2.1 13 = .ok (.aload_n 3, 1) := by decide +kernel
theorem d_TrustDesk_maySpeak_14 : decode kY_TrustDesk_maySpeak.2.1 14 = .ok (.iload_n 2, 1) := by decide +kernel
theorem d_TrustDesk_maySpeak_15 : decode kY_TrustDesk_maySpeak.2.1 15 = .ok (.invokevirtual 305, 3) := by decide +kernel
theorem d_TrustDesk_maySpeak_18 : decode kY_TrustDesk_maySpeak.2.1 18 = .ok (.ifCond .eq 5, 3) := by decide +kernel
theorem d_TrustDesk_maySpeak_21 : decode kY_TrustDesk_maySpeak.2.1 21 = .ok (.iconst 1, 1) := by decide +kernel
theorem d_TrustDesk_maySpeak_22 : decode kY_TrustDesk_maySpeak.2.1 22 = .ok (.ireturn, 1) := by decide +kernel
def w_TrustDesk_maySpeak : List Nat := []
theorem tc_TrustDesk_maySpeak {g : mj_G} {l : Launch} {d : Nat} {T0 : tm_H} {M0 : mj_M} {n0 x9 : Nat} {o0 : Nat} {o1 : Nat} {x2 : Int32} (h_o0 : T0 o0 = some (0, 12, 0)) (h_o1 : T0 o1 = some (0, 11, 0)) (I0 : tm_I tm_FT (tm_in w_TrustDesk_maySpeak) x9 T0 M0 n0 T0 M0 n0) : mj_Met g l kY_TrustDesk_maySpeak (d + 4) [.ref o0, .ref o1, .int x2] M0 n0 0 0 (tm_Q tm_FT (tm_in w_TrustDesk_maySpeak) x9 T0 M0 n0 (fun r _ _ => ∃ v : Int32, r = some (.int v) ∧ 0 ≤ v.toInt ∧ v.toInt ≤ 1)) := by
  refine mj_enter (by decide) (Nat.le_of_ble_eq_true rfl) ?_
  refine mv_aload_n d_TrustDesk_maySpeak_0 rfl rfl ?_
  refine mv_aload_n d_TrustDesk_maySpeak_1 rfl rfl ?_
  obtain ⟨v2, q1⟩ := tm_atI I0 h_o1 (k := 1) rfl
  refine tr_getK q1 d_TrustDesk_maySpeak_2 f_TrustDesk_302_11 ?_
  obtain ⟨_, b9, -⟩ := I0.1 _ _ h_o0
  refine mv_callV (kc' := 0) (ks' := 0) (As := [.int v2]) (st9 := [.int v2, .ref o0]) d_TrustDesk_maySpeak_5 lV_TrustDesk_257 b9 rfl (tc_TrustDesk_fundAt (d := d) (x9 := x9) (o0 := o0) (x1 := v2) h_o0 I0.start) rfl (Nat.le_of_ble_eq_true rfl) (Nat.le_of_ble_eq_true rfl) (Nat.le_of_ble_eq_true rfl) (hst := rfl) (fun b3r M4 n5 b3 => ?_)
  obtain ⟨T6, J7, b11⟩ := b3
  have I8 := I0.call J7 (tm_sub (by decide)) (Or.inl rfl)
  have t12 := J7.up h_o0
  have t13 := J7.up h_o1
  have q14 := J7.keep h_o1 (by decide) q1
  rcases b11 with rfl | ⟨a10, rfl, t_a10⟩
  · refine mv_astore_nN (lv' := [(3, .null), (0, .ref o0), (1, .ref o1), (2, .int x2)]) d_TrustDesk_maySpeak_8 rfl (by decide) rfl ?_
    refine mv_aload_nN d_TrustDesk_maySpeak_9 rfl rfl ?_
    refine mv_ifnullN (tgt := 23) d_TrustDesk_maySpeak_10 (by decide) ?_
    refine mv_aload_n d_TrustDesk_maySpeak_23 rfl rfl ?_
    obtain ⟨v16, q15⟩ := tm_atI I8 t13 (k := 0) rfl
    refine tr_getK q15 d_TrustDesk_maySpeak_24 f_TrustDesk_308_11 ?_
    refine mv_iconst (v := 1) d_TrustDesk_maySpeak_27 (by decide) ?_
    have := mz_hi v16
    refine mv_icmp_neZ (tgt := 42) (a := v16.toInt) (b := 1) d_TrustDesk_maySpeak_28 (by decide) rfl (by decide) (fun b17 => ?_) (fun b17 => ?_)
    · refine mv_null d_TrustDesk_maySpeak_42 ?_
      refine mv_astoreN (lv' := [(4, .null), (3, .null), (0, .ref o0), (1, .ref o1), (2, .int x2)]) d_TrustDesk_maySpeak_43 (by decide) rfl ?_
      refine mv_aloadN d_TrustDesk_maySpeak_45 rfl ?_
      refine mv_ifnullN (tgt := 63) d_TrustDesk_maySpeak_47 (by decide) ?_
      refine mv_iconst (v := 0) d_TrustDesk_maySpeak_63 (by decide) ?_
      exact mv_iret d_TrustDesk_maySpeak_64 rfl (by decide) ⟨_, I8, _, rfl, by decide, by decide⟩
    · refine mv_aload_n d_TrustDesk_maySpeak_31 rfl rfl ?_
      refine mv_aload_n d_TrustDesk_maySpeak_32 rfl rfl ?_
      obtain ⟨v19, q18⟩ := tm_atI I8 t13 (k := 2) rfl
      refine tr_getK q18 d_TrustDesk_maySpeak_33 f_TrustDesk_311_11 ?_
      obtain ⟨_, b26, -⟩ := I8.1 _ _ t12
      refine mv_callV (kc' := 0) (ks' := 0) (As := [.int v19]) (st9 := [.int v19, .ref o0]) d_TrustDesk_maySpeak_36 lV_TrustDesk_257 b26 rfl (tc_TrustDesk_fundAt (d := d) (x9 := x9) (o0 := o0) (x1 := v19) t12 I8.start) rfl (Nat.le_of_ble_eq_true rfl) (Nat.le_of_ble_eq_true rfl) (Nat.le_of_ble_eq_true rfl) (hst := rfl) (fun b20r M21 n22 b20 => ?_)
      obtain ⟨T23, J24, b28⟩ := b20
      have I25 := I8.call J24 (tm_sub (by decide)) (Or.inl rfl)
      have t29 := J24.up t12
      have t30 := J24.up t13
      have q31 := J24.keep t13 (by decide) q14
      have q32 := J24.keep t13 (by decide) q15
      have q33 := J24.keep t13 (by decide) q18
      rcases b28 with rfl | ⟨a27, rfl, t_a27⟩
      · refine mv_goto (tgt := 43) d_TrustDesk_maySpeak_39 (by decide) ?_
        refine mv_astoreN (lv' := [(4, .null), (3, .null), (0, .ref o0), (1, .ref o1), (2, .int x2)]) d_TrustDesk_maySpeak_43 (by decide) rfl ?_
        refine mv_aloadN d_TrustDesk_maySpeak_45 rfl ?_
        refine mv_ifnullN (tgt := 63) d_TrustDesk_maySpeak_47 (by decide) ?_
        refine mv_iconst (v := 0) d_TrustDesk_maySpeak_63 (by decide) ?_
        exact mv_iret d_TrustDesk_maySpeak_64 rfl (by decide) ⟨_, I25, _, rfl, by decide, by decide⟩
      · refine mv_goto (tgt := 43) d_TrustDesk_maySpeak_39 (by decide) ?_
        refine mv_astore (lv' := [(4, .ref a27), (3, .null), (0, .ref o0), (1, .ref o1), (2, .int x2)]) d_TrustDesk_maySpeak_43 (by decide) rfl ?_
        refine mv_aload d_TrustDesk_maySpeak_45 rfl ?_
        refine mv_ifnull d_TrustDesk_maySpeak_47 ?_
        refine mv_aload d_TrustDesk_maySpeak_50 rfl ?_
        refine mv_iload_n d_TrustDesk_maySpeak_52 rfl rfl ?_
        obtain ⟨_, b40, -⟩ := I25.1 _ _ t_a27
        refine mv_callV (kc' := 0) (ks' := 0) (As := [.int x2]) (st9 := [.int x2, .ref a27]) d_TrustDesk_maySpeak_53 lV_TrustDesk_305 b40 rfl (tc_Fund_hasTrustee (d := (d + 3)) (x9 := x9) (o0 := a27) (x1 := x2) t_a27 I25.start) rfl (Nat.le_of_ble_eq_true rfl) (Nat.le_of_ble_eq_true rfl) (Nat.le_of_ble_eq_true rfl) (hst := rfl) (fun b34r M35 n36 b34 => ?_)
        obtain ⟨T37, J38, v41, rfl, b42, b43⟩ := b34
        have I39 := I25.call J38 (tm_sub (by decide)) (Or.inl rfl)
        have t44 := J38.up t_a27
        have t45 := J38.up t29
        have t46 := J38.up t30
        have q47 := J38.keep t30 (by decide) q31
        have q48 := J38.keep t30 (by decide) q32
        have q49 := J38.keep t30 (by decide) q33
        have := mz_hi v41
        refine mv_if_eqZ (tgt := 63) (a := v41.toInt) d_TrustDesk_maySpeak_56 (by decide) rfl (fun b50 => ?_) (fun b50 => ?_)
        · refine mv_iconst (v := 0) d_TrustDesk_maySpeak_63 (by decide) ?_
          exact mv_iret d_TrustDesk_maySpeak_64 rfl (by decide) ⟨_, I39, _, rfl, by decide, by decide⟩
        · refine mv_iconst (v := 1) d_TrustDesk_maySpeak_59 (by decide) ?_
          refine mv_goto (tgt := 64) d_TrustDesk_maySpeak_60 (by decide) ?_
          exact mv_iret d_TrustDesk_maySpeak_64 rfl (by decide) ⟨_, I39, _, rfl, by decide, by decide⟩
  · refine mv_astore_n (lv' := [(3, .ref a10), (0, .ref o0), (1, .ref o1), (2, .int x2)]) d_TrustDesk_maySpeak_8 rfl (by decide) rfl ?_
    refine mv_aload_n d_TrustDesk_maySpeak_9 rfl rfl ?_
    refine mv_ifnull d_TrustDesk_maySpeak_10 ?_
    refine mv_aload_n d_TrustDesk_maySpeak_13 rfl rfl ?_
    refine mv_iload_n d_TrustDesk_maySpeak_14 rfl rfl ?_
    obtain ⟨_, b57, -⟩ := I8.1 _ _ t_a10
    refine mv_callV (kc' := 0) (ks' := 0) (As := [.int x2]) (st9 := [.int x2, .ref a10]) d_TrustDesk_maySpeak_15 lV_TrustDesk_305 b57 rfl (tc_Fund_hasTrustee (d := (d + 3)) (x9 := x9) (o0 := a10) (x1 := x2) t_a10 I8.start) rfl (Nat.le_of_ble_eq_true rfl) (Nat.le_of_ble_eq_true rfl) (Nat.le_of_ble_eq_true rfl) (hst := rfl) (fun b51r M52 n53 b51 => ?_)
    obtain ⟨T54, J55, v58, rfl, b59, b60⟩ := b51
    have I56 := I8.call J55 (tm_sub (by decide)) (Or.inl rfl)
    have t61 := J55.up t_a10
    have t62 := J55.up t12
    have t63 := J55.up t13
    have q64 := J55.keep t13 (by decide) q14
    have := mz_hi v58
    refine mv_if_eqZ (tgt := 23) (a := v58.toInt) d_TrustDesk_maySpeak_18 (by decide) rfl (fun b65 => ?_) (fun b65 => ?_)
    · refine mv_aload_n d_TrustDesk_maySpeak_23 rfl rfl ?_
      obtain ⟨v67, q66⟩ := tm_atI I56 t63 (k := 0) rfl
      refine tr_getK q66 d_TrustDesk_maySpeak_24 f_TrustDesk_308_11 ?_
      refine mv_iconst (v := 1) d_TrustDesk_maySpeak_27 (by decide) ?_
      have := mz_hi v67
      refine mv_icmp_neZ (tgt := 42) (a := v67.toInt) (b := 1) d_TrustDesk_maySpeak_28 (by decide) rfl (by decide) (fun b68 => ?_) (fun b68 => ?_)
      · refine mv_null d_TrustDesk_maySpeak_42 ?_
        refine mv_astoreN (lv' := [(4, .null), (3, .ref a10), (0, .ref o0), (1, .ref o1), (2, .int x2)]) d_TrustDesk_maySpeak_43 (by decide) rfl ?_
        refine mv_aloadN d_TrustDesk_maySpeak_45 rfl ?_
        refine mv_ifnullN (tgt := 63) d_TrustDesk_maySpeak_47 (by decide) ?_
        refine mv_iconst (v := 0) d_TrustDesk_maySpeak_63 (by decide) ?_
        exact mv_iret d_TrustDesk_maySpeak_64 rfl (by decide) ⟨_, I56, _, rfl, by decide, by decide⟩
      · refine mv_aload_n d_TrustDesk_maySpeak_31 rfl rfl ?_
        refine mv_aload_n d_TrustDesk_maySpeak_32 rfl rfl ?_
        obtain ⟨v70, q69⟩ := tm_atI I56 t63 (k := 2) rfl
        refine tr_getK q69 d_TrustDesk_maySpeak_33 f_TrustDesk_311_11 ?_
        obtain ⟨_, b77, -⟩ := I56.1 _ _ t62
        refine mv_callV (kc' := 0) (ks' := 0) (As := [.int v70]) (st9 := [.int v70, .ref o0]) d_TrustDesk_maySpeak_36 lV_TrustDesk_257 b77 rfl (tc_TrustDesk_fundAt (d := d) (x9 := x9) (o0 := o0) (x1 := v70) t62 I56.start) rfl (Nat.le_of_ble_eq_true rfl) (Nat.le_of_ble_eq_true rfl) (Nat.le_of_ble_eq_true rfl) (hst := rfl) (fun b71r M72 n73 b71 => ?_)
        obtain ⟨T74, J75, b79⟩ := b71
        have I76 := I56.call J75 (tm_sub (by decide)) (Or.inl rfl)
        have t80 := J75.up t61
        have t81 := J75.up t62
        have t82 := J75.up t63
        have q83 := J75.keep t63 (by decide) q64
        have q84 := J75.keep t63 (by decide) q66
        have q85 := J75.keep t63 (by decide) q69
        rcases b79 with rfl | ⟨a78, rfl, t_a78⟩
        · refine mv_goto (tgt := 43) d_TrustDesk_maySpeak_39 (by decide) ?_
          refine mv_astoreN (lv' := [(4, .null), (3, .ref a10), (0, .ref o0), (1, .ref o1), (2, .int x2)]) d_TrustDesk_maySpeak_43 (by decide) rfl ?_
          refine mv_aloadN d_TrustDesk_maySpeak_45 rfl ?_
          refine mv_ifnullN (tgt := 63) d_TrustDesk_maySpeak_47 (by decide) ?_
          refine mv_iconst (v := 0) d_TrustDesk_maySpeak_63 (by decide) ?_
          exact mv_iret d_TrustDesk_maySpeak_64 rfl (by decide) ⟨_, I76, _, rfl, by decide, by decide⟩
        · refine mv_goto (tgt := 43) d_TrustDesk_maySpeak_39 (by decide) ?_
          refine mv_astore (lv' := [(4, .ref a78), (3, .ref a10), (0, .ref o0), (1, .ref o1), (2, .int x2)]) d_TrustDesk_maySpeak_43 (by decide) rfl ?_
          refine mv_aload d_TrustDesk_maySpeak_45 rfl ?_
          refine mv_ifnull d_TrustDesk_maySpeak_47 ?_
          refine mv_aload d_TrustDesk_maySpeak_50 rfl ?_
          refine mv_iload_n d_TrustDesk_maySpeak_52 rfl rfl ?_
          obtain ⟨_, b92, -⟩ := I76.1 _ _ t_a78
          refine mv_callV (kc' := 0) (ks' := 0) (As := [.int x2]) (st9 := [.int x2, .ref a78]) d_TrustDesk_maySpeak_53 lV_TrustDesk_305 b92 rfl (tc_Fund_hasTrustee (d := (d + 3)) (x9 := x9) (o0 := a78) (x1 := x2) t_a78 I76.start) rfl (Nat.le_of_ble_eq_true rfl) (Nat.le_of_ble_eq_true rfl) (Nat.le_of_ble_eq_true rfl) (hst := rfl) (fun b86r M87 n88 b86 => ?_)
          obtain ⟨T89, J90, v93, rfl, b94, b95⟩ := b86
          have I91 := I76.call J90 (tm_sub (by decide)) (Or.inl rfl)
          have t96 := J90.up t_a78
          have t97 := J90.up t80
          have t98 := J90.up t81
          have t99 := J90.up t82
          have q100 := J90.keep t82 (by decide) q83
          have q101 := J90.keep t82 (by decide) q84
          have q102 := J90.keep t82 (by decide) q85
          have := mz_hi v93
          refine mv_if_eqZ (tgt := 63) (a := v93.toInt) d_TrustDesk_maySpeak_56 (by decide) rfl (fun b103 => ?_) (fun b103 => ?_)
          · refine mv_iconst (v := 0) d_TrustDesk_maySpeak_63 (by decide) ?_
            exact mv_iret d_TrustDesk_maySpeak_64 rfl (by decide) ⟨_, I91, _, rfl, by decide, by decide⟩
          · refine mv_iconst (v := 1) d_TrustDesk_maySpeak_59 (by decide) ?_
            refine mv_goto (tgt := 64) d_TrustDesk_maySpeak_60 (by decide) ?_
            exact mv_iret d_TrustDesk_maySpeak_64 rfl (by decide) ⟨_, I91, _, rfl, by decide, by decide⟩
    · refine mv_iconst (v := 1) d_TrustDesk_maySpeak_21 (by decide) ?_
      exact mv_iret d_TrustDesk_maySpeak_22 rfl (by decide) ⟨_, I56, _, rfl, by decide, by decide⟩
abbrev kY_TrustDesk_near : mj_Y := (⟨"TrustDesk", "near", "(I)I"⟩, prog_1_method_9_code, 3, (Option.some Jvm.ClassFile.FieldType.int))
theorem d_TrustDesk_near_0 : decode kY_TrustDesk_near.2.1 0 = .ok (.iload_n 1, 1) := by decide +kernel
theorem d_TrustDesk_near_1 : decode kY_TrustDesk_near.2.1 1 = .ok (.ifCond .lt 22, 3) := by decide +kernel
theorem d_TrustDesk_near_23 : decode kY_TrustDesk_near.2.1 23 = .ok (.iconst (-1), 1) := by decide +kernel
theorem d_TrustDesk_near_24 : decode kY_TrustDesk_near.2.1 24 = .ok (.ireturn, 1) := by decide +kernel
theorem d_TrustDesk_near_4 : decode kY_TrustDesk_near.2.1 4 = .ok (.iload_n 1, 1) := by decide +kernel
theorem d_TrustDesk_near_5 : decode kY_TrustDesk_near.2.1 5 = .ok (.sipush 255, 3) := by decide +kernel
theorem d_TrustDesk_near_8 : decode kY_TrustDesk_near.2.1 8 = .ok (.if_icmp .gt 15, 3) := by decide +kernel
theorem d_TrustDesk_near_11 : decode kY_TrustDesk_near.2.1 11 = .ok (.aload_n 0, 1) := by decide +kernel
theorem d_TrustDesk_near_12 : decode kY_TrustDesk_near.2.1 12 = .ok (.getfield 56, 3) := by decide +kernel
theorem d_TrustDesk_near_15 : decode kY_TrustDesk_near.2.1 15 = .ok (.invokevirtual 97, 3) := by decide +kernel
theorem d_TrustDesk_near_18 : decode kY_TrustDesk_near.2.1 18 = .ok (.bipush 12, 2) := by decide +kernel
theorem d_TrustDesk_near_20 : decode kY_TrustDesk_near.2.1 20 = .ok (.if_icmp .lt 5, 3) := by decide +kernel
theorem d_TrustDesk_near_25 : decode kY_TrustDesk_near.2.1 25 = .ok (.aload_n 0, 1) := by decide +kernel
theorem d_TrustDesk_near_26 : decode kY_TrustDesk_near.2.1 26 = .ok (.getfield 19, 3) := by decide +kernel
theorem d_TrustDesk_near_29 : decode kY_TrustDesk_near.2.1 29 = .ok (.invokevirtual 135, 3) := by decide +kernel
abbrev kY_Reader_readNearEnd : mj_Y := (⟨"TrustDesk$Reader", "readNearEnd", "()LTrustDesk$EndText;"⟩, prog_10_method_5_code, 2, (Option.some (Jvm.ClassFile.FieldType.object "TrustDesk$EndText")))
theorem d_Reader_readNearEnd_0 : decode kY_Reader_readNearEnd.2.1 0 = .ok (.aload_n 0, 1) := by decide +kernel
theorem d_Reader_readNearEnd_1 : decode kY_Reader_readNearEnd.2.1 1 = .ok (.bipush 10, 2) := by decide +kernel
theorem d_Reader_readNearEnd_3 : decode kY_Reader_readNearEnd.2.1 3 = .ok (.invokevirtual 37, 3) := by decide +kernel
theorem d_Reader_readNearEnd_6 : decode kY_Reader_readNearEnd.2.1 6 = .ok (.aload_n 0, 1) := by decide +kernel
theorem d_Reader_readNearEnd_7 : decode kY_Reader_readNearEnd.2.1 7 = .ok (.bipush 26, 2) := by decide +kernel
theorem d_Reader_readNearEnd_9 : decode kY_Reader_readNearEnd.2.1 9 = .ok (.invokevirtual 52, 3) := by decide +kernel
theorem d_Reader_readNearEnd_12 : decode kY_Reader_readNearEnd.2.1 12 = .ok (.ifCond .ne 11, 3) := by decide +kernel
theorem d_Reader_readNearEnd_23 : decode kY_Reader_readNearEnd.2.1 23 = .ok (.aload_n 0, 1) := by decide +kernel
theorem d_Reader_readNearEnd_24 : decode kY_Reader_readNearEnd.2.1 24 = .ok (.aconst_null, 1) := by decide +kernel
theorem d_Reader_readNearEnd_25 : decode kY_Reader_readNearEnd.2.1 25 = .ok (.invokevirtual 59, 3) := by decide +kernel
theorem d_Reader_readNearEnd_28 : decode kY_Reader_readNearEnd.2.1 28 = .ok (.astore_n 1, 1) := by decide +kernel
theorem d_Reader_readNearEnd_29 : decode kY_Reader_readNearEnd.2.1 29 = .ok (.aload_n 1, 1) := by decide +kernel
theorem d_Reader_readNearEnd_30 : decode kY_Reader_readNearEnd.2.1 30 = .ok (.ifnull 12, 3) := by decide +kernel
theorem d_Reader_readNearEnd_42 : decode kY_Reader_readNearEnd.2.1 42 = .ok (.aconst_null, 1) := by decide +kernel
theorem d_Reader_readNearEnd_43 : decode kY_Reader_readNearEnd.2.1 43 = .ok (.areturn, 1) := by decide +kernel
theorem d_Reader_readNearEnd_33 : decode kY_Reader_readNearEnd.2.1 33 = .ok (.aload_n 0, 1) := by decide +kernel
theorem d_Reader_readNearEnd_34 : decode kY_Reader_readNearEnd.2.1 34 = .ok (.bipush 59, 2) := by decide +kernel
theorem d_Reader_readNearEnd_36 : decode kY_Reader_readNearEnd.2.1 36 = .ok (.invokevirtual 63, 3) := by decide +kernel
theorem d_Reader_readNearEnd_39 : decode kY_Reader_readNearEnd.2.1 39 = .ok (.ifCond .ne 5, 3) := by decide +kernel
theorem d_Reader_readNearEnd_44 : decode kY_Reader_readNearEnd.2.1 44 = .ok (.aload_n 0, 1) := by decide +kernel
theorem d_Reader_readNearEnd_45 : decode kY_Reader_readNearEnd.2.1 45 = .ok (.getfield 41, 3) := by decide +kernel
theorem d_Reader_readNearEnd_48 : decode kY_Reader_readNearEnd.2.1 48 = .ok (.ifCond .eq 11, 3) := by decide +kernel
theorem d_Reader_readNearEnd_59 : decode kY_Reader_readNearEnd.2.1 59 = .ok (.aload_n 1, 1) := by decide +kernel
theorem d_Reader_readNearEnd_60 : decode kY_Reader_readNearEnd.2.1 60 = .ok (.areturn, 1) := by decide +kernel
theorem d_Reader_readNearEnd_51 : decode kY_Reader_readNearEnd.2.1 51 = .ok (.aload_n 0, 1) := by decide +kernel
theorem d_Reader_readNearEnd_52 : decode kY_Reader_readNearEnd.2.1 52 = .ok (.iconst 1, 1) := by decide +kernel
theorem d_Reader_readNearEnd_53 : decode kY_Reader_readNearEnd.2.1 53 = .ok (.invokevirtual 56, 3) := by decide +kernel
theorem d_Reader_readNearEnd_56 : decode kY_Reader_readNearEnd.2.1 56 = .ok (.pop, 1) := by decide +kernel
theorem d_Reader_readNearEnd_57 : decode kY_Reader_readNearEnd.2.1 57 = .ok (.aconst_null, 1) := by decide +kernel
theorem d_Reader_readNearEnd_58 : decode kY_Reader_readNearEnd.2.1 58 = .ok (.areturn, 1) := by decide +kernel
theorem d_Reader_readNearEnd_15 : decode kY_Reader_readNearEnd.2.1 15 = .ok (.aload_n 0, 1) := by decide +kernel
theorem d_Reader_readNearEnd_16 : decode kY_Reader_readNearEnd.2.1 16 = .ok (.iconst 1, 1) := by decide +kernel
theorem d_Reader_readNearEnd_17 : decode kY_Reader_readNearEnd.2.1 17 = .ok (.invokevirtual 56, 3) := by decide +kernel
theorem d_Reader_readNearEnd_20 : decode kY_Reader_readNearEnd.2.1 20 = .ok (.pop, 1) := by decide +kernel
theorem d_Reader_readNearEnd_21 : decode kY_Reader_readNearEnd.2.1 21 = .ok (.aconst_null, 1) := by decide +kernel
theorem d_Reader_readNearEnd_22 : decode kY_Reader_readNearEnd.2.1 22 = .ok (.areturn, 1) := by decide +kernel
theorem lV_TrustDesk_135 : mj_lV "TrustDesk" 135 kY_Reader_readNearEnd 0 := ⟨⟨(mj_in1 (List.mem_of_getElem? (i := 817) (by decide +kernel)) rfl), (mj_in1 (List.mem_of_getElem? (i := 3) (by decide +kernel)) rfl), (mj_in1 (List.mem_of_getElem? (i := 820) (by decide +kernel)) rfl), by decide, rfl, by decide⟩, (mj_in1 (List.mem_of_getElem? (i := 818) (by decide +kernel)) rfl), (mj_in1 (List.mem_of_getElem? (i := 819) (by decide +kernel)) rfl)⟩
theorem d_TrustDesk_near_32 : decode kY_TrustDesk_near.2.1 32 = .ok (.astore_n 2, 1) := by decide +kernel
theorem d_TrustDesk_near_33 : decode kY_TrustDesk_near.2.1 33 = .ok (.aload_n 0, 1) := by decide +kernel
theorem d_TrustDesk_near_34 : decode kY_TrustDesk_near.2.1 34 = .ok (.getfield 19, 3) := by decide +kernel
theorem d_TrustDesk_near_37 : decode kY_TrustDesk_near.2.1 37 = .ok (.iconst 0, 1) := by decide +kernel
theorem d_TrustDesk_near_38 : decode kY_TrustDesk_near.2.1 38 = .ok (.putfield 88, 3) := by decide +kernel
theorem d_TrustDesk_near_41 : decode kY_TrustDesk_near.2.1 41 = .ok (.aload_n 2, 1) := by decide +kernel
theorem d_TrustDesk_near_42 : decode kY_TrustDesk_near.2.1 42 = .ok (.ifnonnull 13, 3) := by decide +kernel
theorem d_TrustDesk_near_45 : decode kY_TrustDesk_near.2.1 45 = .ok (.iconst (-1), 1) := by decide +kernel
theorem d_TrustDesk_near_46 : decode kY_TrustDesk_near.2.1 46 = .ok (.aload_n 0, 1) := by decide +kernel
theorem d_TrustDesk_near_47 : decode kY_TrustDesk_near.2.1 47 = .ok (.getfield 19, 3) := by decide +kernel
theorem d_TrustDesk_near_50 : decode kY_TrustDesk_near.2.1 50 = .ok (.getfield 104, 3) := by decide +kernel
theorem d_TrustDesk_near_53 : decode kY_TrustDesk_near.2.1 53 = .ok (.isub, 1) := by decide +kernel
theorem d_TrustDesk_near_54 : decode kY_TrustDesk_near.2.1 54 = .ok (.ireturn, 1) := by decide +kernel
theorem d_TrustDesk_near_55 : decode kY_TrustDesk_near.2.1 55 = .ok (.aload_n 0, 1) := by decide +kernel
theorem d_TrustDesk_near_56 : decode kY_TrustDesk_near.2.1 56 = .ok (.getfield 56, 3) := by decide +kernel
theorem d_TrustDesk_near_59 : decode kY_TrustDesk_near.2.1 59 = .ok (.new 139, 3) := by decide +kernel
theorem n_TrustDesk_139 : mj_nw "TrustDesk" 139 8 [.null, .int 0] := ⟨kR_NearEnd, kF_NearEnd, 2, kt_NearEnd, rfl, kg_8, kto_NearEnd, (mj_in1 (List.mem_of_getElem? (i := 821) (by decide +kernel)) rfl), (mj_in1 (List.mem_of_getElem? (i := 822) (by decide +kernel)) rfl), (mj_in1 (List.mem_of_getElem? (i := 24) (by decide +kernel)) rfl), by decide +kernel, rfl, fun _ => rfl⟩
theorem d_TrustDesk_near_62 : decode kY_TrustDesk_near.2.1 62 = .ok (.dup, 1) := by decide +kernel
theorem d_TrustDesk_near_63 : decode kY_TrustDesk_near.2.1 63 = .ok (.aload_n 2, 1) := by decide +kernel
theorem d_TrustDesk_near_64 : decode kY_TrustDesk_near.2.1 64 = .ok (.iload_n 1, 1) := by decide +kernel
theorem d_TrustDesk_near_65 : decode kY_TrustDesk_near.2.1 65 = .ok (.invokespecial 141, 3) := by decide +kernel
abbrev kY_NearEnd_init : mj_Y := (⟨"TrustDesk$NearEnd", "<init>", "(LTrustDesk$EndText;I)V"⟩, prog_9_method_1_code, 3, (Option.none : Option Jvm.ClassFile.FieldType))
theorem d_NearEnd_init_0 : decode kY_NearEnd_init.2.1 0 = .ok (.aload_n 0, 1) := by decide +kernel
theorem d_NearEnd_init_1 : decode kY_NearEnd_init.2.1 1 = .ok (.invokespecial 1, 3) := by decide +kernel
theorem d_NearEnd_init_4 : decode kY_NearEnd_init.2.1 4 = .ok (.aload_n 0, 1) := by decide +kernel
theorem d_NearEnd_init_5 : decode kY_NearEnd_init.2.1 5 = .ok (.aload_n 1, 1) := by decide +kernel
theorem d_NearEnd_init_6 : decode kY_NearEnd_init.2.1 6 = .ok (.putfield 7, 3) := by decide +kernel
theorem p_NearEnd_7_8 : mj_fp "TrustDesk$NearEnd" 7 8 0 (kt_NearEnd 0) true := ⟨kR_NearEnd, kF_NearEnd, 2, "TrustDesk$NearEnd", kt_NearEnd, rfl, kg_8, by decide, (mj_in1 (List.mem_of_getElem? (i := 827) (by decide +kernel)) rfl), Or.inl rfl, kto_NearEnd, kn_NearEnd, rfl, rfl, fun _ => rfl⟩
theorem d_NearEnd_init_9 : decode kY_NearEnd_init.2.1 9 = .ok (.aload_n 0, 1) := by decide +kernel
theorem d_NearEnd_init_10 : decode kY_NearEnd_init.2.1 10 = .ok (.iload_n 2, 1) := by decide +kernel
theorem d_NearEnd_init_11 : decode kY_NearEnd_init.2.1 11 = .ok (.putfield 13, 3) := by decide +kernel
theorem p_NearEnd_13_8 : mj_fp "TrustDesk$NearEnd" 13 8 1 (kt_NearEnd 1) true := ⟨kR_NearEnd, kF_NearEnd, 2, "TrustDesk$NearEnd", kt_NearEnd, rfl, kg_8, by decide, (mj_in1 (List.mem_of_getElem? (i := 829) (by decide +kernel)) rfl), Or.inl rfl, kto_NearEnd, kn_NearEnd, rfl, rfl, fun _ => rfl⟩
theorem d_NearEnd_init_14 : decode kY_NearEnd_init.2.1 14 = .ok (.return_, 1) := by decide +kernel
def w_NearEnd_init : List Nat := []
theorem tc_NearEnd_init {g : mj_G} {l : Launch} {d : Nat} {T0 : tm_H} {M0 : mj_M} {n0 : Nat} {o0 : Nat} {o1 : Nat} {x2 : Int32} (h_o0 : T0 o0 = some (5, 8, 0)) (h_o1 : T0 o1 = some (0, 4, 0)) (m_o0 : M0 o0 = some (.inr (8, [.null, .int 0]))) (I0 : tm_I tm_FT (tm_in w_NearEnd_init) o0 T0 M0 n0 T0 M0 n0) : mj_Met g l kY_NearEnd_init (d + 1) [.ref o0, .ref o1, .int x2] M0 n0 0 0 (tm_Q tm_FT (tm_in w_NearEnd_init) o0 T0 M0 n0 (fun r T M => r = none ∧ M o0 = some (.inr (8, [.ref o1, .int x2])))) := by
  refine mj_enter (by decide) (Nat.le_of_ble_eq_true rfl) ?_
  refine mv_aload_n d_NearEnd_init_0 rfl rfl ?_
  refine mv_oinit d_NearEnd_init_1 (mj_in1 (List.mem_of_getElem? (i := 826) (by decide +kernel)) rfl) (Nat.le_of_ble_eq_true rfl) ?_
  refine mv_aload_n d_NearEnd_init_4 rfl rfl ?_
  refine mv_aload_n d_NearEnd_init_5 rfl rfl ?_
  refine tr_putXF (k := 0) (fs' := [.ref o1, .int 0]) tm_okF I0 h_o0 (Or.inl rfl) m_o0 d_NearEnd_init_6 p_NearEnd_7_8 rfl (Nat.le_of_ble_eq_true rfl) rfl rfl rfl (fun M1 I2 m3 K4 => ?_)
  refine mv_aload_n d_NearEnd_init_9 rfl rfl ?_
  refine mv_iload_n d_NearEnd_init_10 rfl rfl ?_
  refine tr_putXF (k := 1) (fs' := [.ref o1, .int x2]) tm_okF I2 h_o0 (Or.inl rfl) m3 d_NearEnd_init_11 p_NearEnd_13_8 rfl (Nat.le_of_ble_eq_true rfl) rfl rfl rfl (fun M5 I6 m7 K8 => ?_)
  exact mv_vret d_NearEnd_init_14 rfl ⟨_, I6, rfl, m7⟩
theorem lI_TrustDesk_141 : mj_lI "TrustDesk" 141 kY_NearEnd_init 2 := ⟨⟨(mj_in1 (List.mem_of_getElem? (i := 823) (by decide +kernel)) rfl), (mj_in1 (List.mem_of_getElem? (i := 24) (by decide +kernel)) rfl), (mj_in1 (List.mem_of_getElem? (i := 825) (by decide +kernel)) rfl), by decide, rfl, by decide⟩, rfl, (mj_in1 (List.mem_of_getElem? (i := 824) (by decide +kernel)) rfl), rfl⟩
theorem d_TrustDesk_near_68 : decode kY_TrustDesk_near.2.1 68 = .ok (.invokevirtual 107, 3) := by decide +kernel
theorem d_TrustDesk_near_71 : decode kY_TrustDesk_near.2.1 71 = .ok (.pop, 1) := by decide +kernel
theorem d_TrustDesk_near_72 : decode kY_TrustDesk_near.2.1 72 = .ok (.aload_n 0, 1) := by decide +kernel
theorem d_TrustDesk_near_73 : decode kY_TrustDesk_near.2.1 73 = .ok (.getfield 56, 3) := by decide +kernel
theorem d_TrustDesk_near_76 : decode kY_TrustDesk_near.2.1 76 = .ok (.invokevirtual 97, 3) := by decide +kernel
theorem d_TrustDesk_near_79 : decode kY_TrustDesk_near.2.1 79 = .ok (.iconst 1, 1) := by decide +kernel
theorem d_TrustDesk_near_80 : decode kY_TrustDesk_near.2.1 80 = .ok (.isub, 1) := by decide +kernel
theorem d_TrustDesk_near_81 : decode kY_TrustDesk_near.2.1 81 = .ok (.ireturn, 1) := by decide +kernel
abbrev kY_TrustDesk_nearest : mj_Y := (⟨"TrustDesk", "nearest", "(I)I"⟩, prog_1_method_47_code, 7, (Option.some Jvm.ClassFile.FieldType.int))
theorem d_TrustDesk_nearest_0 : decode kY_TrustDesk_nearest.2.1 0 = .ok (.aload_n 0, 1) := by decide +kernel
theorem d_TrustDesk_nearest_1 : decode kY_TrustDesk_nearest.2.1 1 = .ok (.iload_n 1, 1) := by decide +kernel
theorem d_TrustDesk_nearest_2 : decode kY_TrustDesk_nearest.2.1 2 = .ok (.invokevirtual 257, 3) := by decide +kernel
theorem d_TrustDesk_nearest_5 : decode kY_TrustDesk_nearest.2.1 5 = .ok (.astore_n 2, 1) := by decide +kernel
theorem d_TrustDesk_nearest_6 : decode kY_TrustDesk_nearest.2.1 6 = .ok (.aload_n 2, 1) := by decide +kernel
theorem d_TrustDesk_nearest_7 : decode kY_TrustDesk_nearest.2.1 7 = .ok (.ifnull 10, 3) := by decide +kernel
theorem d_TrustDesk_nearest_17 : decode kY_TrustDesk_nearest.2.1 17 = .ok (.iconst (-1), 1) := by decide +kernel
theorem d_TrustDesk_nearest_18 : decode kY_TrustDesk_nearest.2.1 18 = .ok (.ireturn, 1) := by decide +kernel
theorem d_TrustDesk_nearest_10 : decode kY_TrustDesk_nearest.2.1 10 = .ok (.aload_n 2, 1) := by decide +kernel
theorem d_TrustDesk_nearest_11 : decode kY_TrustDesk_nearest.2.1 11 = .ok (.invokevirtual 162, 3) := by decide +kernel
theorem d_TrustDesk_nearest_14 : decode kY_TrustDesk_nearest.2.1 14 = .ok (.ifCond .eq 5, 3) := by decide +kernel
theorem d_TrustDesk_nearest_19 : decode kY_TrustDesk_nearest.2.1 19 = .ok (.aload_n 0, 1) := by decide +kernel
theorem d_TrustDesk_nearest_20 : decode kY_TrustDesk_nearest.2.1 20 = .ok (.aload_n 0, 1) := by decide +kernel
theorem d_TrustDesk_nearest_21 : decode kY_TrustDesk_nearest.2.1 21 = .ok (.getfield 73, 3) := by decide +kernel
theorem d_TrustDesk_nearest_24 : decode kY_TrustDesk_nearest.2.1 24 = .ok (.invokevirtual 114, 3) := by decide +kernel
theorem d_TrustDesk_nearest_27 : decode kY_TrustDesk_nearest.2.1 27 = .ok (.iconst 1, 1) := by decide +kernel
theorem d_TrustDesk_nearest_28 : decode kY_TrustDesk_nearest.2.1 28 = .ok (.invokevirtual 118, 3) := by decide +kernel
theorem d_TrustDesk_nearest_31 : decode kY_TrustDesk_nearest.2.1 31 = .ok (.iconst 1, 1) := by decide +kernel
theorem d_TrustDesk_nearest_32 : decode kY_TrustDesk_nearest.2.1 32 = .ok (.isub, 1) := by decide +kernel
theorem d_TrustDesk_nearest_33 : decode kY_TrustDesk_nearest.2.1 33 = .ok (.istore_n 3, 1) := by decide +kernel
theorem d_TrustDesk_nearest_34 : decode kY_TrustDesk_nearest.2.1 34 = .ok (.iconst (-1), 1) := by decide +kernel
theorem d_TrustDesk_nearest_35 : decode kY_TrustDesk_nearest.2.1 35 = .ok (.istore 4, 2) := by decide +kernel
theorem d_TrustDesk_nearest_37 : decode kY_TrustDesk_nearest.2.1 37 = .ok (.iconst 0, 1) := by decide +kernel
theorem d_TrustDesk_nearest_38 : decode kY_TrustDesk_nearest.2.1 38 = .ok (.istore 5, 2) := by decide +kernel
theorem d_TrustDesk_nearest_40 : decode kY_TrustDesk_nearest.2.1 40 = .ok (.iload 5, 2) := by decide +kernel
theorem d_TrustDesk_nearest_42 : decode kY_TrustDesk_nearest.2.1 42 = .ok (.aload_n 0, 1) := by decide +kernel
theorem d_TrustDesk_nearest_43 : decode kY_TrustDesk_nearest.2.1 43 = .ok (.getfield 56, 3) := by decide +kernel
theorem d_TrustDesk_nearest_46 : decode kY_TrustDesk_nearest.2.1 46 = .ok (.invokevirtual 97, 3) := by decide +kernel
theorem d_TrustDesk_nearest_49 : decode kY_TrustDesk_nearest.2.1 49 = .ok (.if_icmp .ge 47, 3) := by decide +kernel
theorem d_TrustDesk_nearest_96 : decode kY_TrustDesk_nearest.2.1 96 = .ok (.iload 4, 2) := by decide +kernel
theorem d_TrustDesk_nearest_98 : decode kY_TrustDesk_nearest.2.1 98 = .ok (.ireturn, 1) := by decide +kernel
theorem d_TrustDesk_nearest_52 : decode kY_TrustDesk_nearest.2.1 52 = .ok (.aload_n 0, 1) := by decide +kernel
theorem d_TrustDesk_nearest_53 : decode kY_TrustDesk_nearest.2.1 53 = .ok (.getfield 56, 3) := by decide +kernel
theorem d_TrustDesk_nearest_56 : decode kY_TrustDesk_nearest.2.1 56 = .ok (.iload 5, 2) := by decide +kernel
theorem d_TrustDesk_nearest_58 : decode kY_TrustDesk_nearest.2.1 58 = .ok (.invokevirtual 158, 3) := by decide +kernel
theorem d_TrustDesk_nearest_61 : decode kY_TrustDesk_nearest.2.1 61 = .ok (.checkcast 139, 3) := by decide +kernel
theorem d_TrustDesk_nearest_64 : decode kY_TrustDesk_nearest.2.1 64 = .ok (.getfield 383, 3) := by decide +kernel
theorem d_TrustDesk_nearest_67 : decode kY_TrustDesk_nearest.2.1 67 = .ok (.aload_n 2, 1) := by decide +kernel
theorem d_TrustDesk_nearest_68 : decode kY_TrustDesk_nearest.2.1 68 = .ok (.getfield 372, 3) := by decide +kernel
theorem d_TrustDesk_nearest_71 : decode kY_TrustDesk_nearest.2.1 71 = .ok (.iand, 1) := by decide +kernel
theorem d_TrustDesk_nearest_72 : decode kY_TrustDesk_nearest.2.1 72 = .ok (.invokestatic 337, 3) := by decide +kernel
theorem d_TrustDesk_nearest_75 : decode kY_TrustDesk_nearest.2.1 75 = .ok (.istore 6, 2) := by decide +kernel
theorem d_TrustDesk_nearest_77 : decode kY_TrustDesk_nearest.2.1 77 = .ok (.iload 6, 2) := by decide +kernel
theorem d_TrustDesk_nearest_79 : decode kY_TrustDesk_nearest.2.1 79 = .ok (.iload_n 3, 1) := by decide +kernel
theorem d_TrustDesk_nearest_80 : decode kY_TrustDesk_nearest.2.1 80 = .ok (.if_icmp .le 10, 3) := by decide +kernel
theorem d_TrustDesk_nearest_90 : decode kY_TrustDesk_nearest.2.1 90 = .ok (.iinc 5 1, 3) := by decide +kernel
theorem d_TrustDesk_nearest_93 : decode kY_TrustDesk_nearest.2.1 93 = .ok (.goto (-53), 3) := by decide +kernel
theorem d_TrustDesk_nearest_83 : decode kY_TrustDesk_nearest.2.1 83 = .ok (.iload 6, 2) := by decide +kernel
theorem d_TrustDesk_nearest_85 : decode kY_TrustDesk_nearest.2.1 85 = .ok (.istore_n 3, 1) := by decide +kernel
theorem d_TrustDesk_nearest_86 : decode kY_TrustDesk_nearest.2.1 86 = .ok (.iload 5, 2) := by decide +kernel
theorem d_TrustDesk_nearest_88 : decode kY_TrustDesk_nearest.2.1 88 = .ok (.istore 4, 2) := by decide +kernel
def w_TrustDesk_nearest : List Nat := []
theorem tc_TrustDesk_nearest {g : mj_G} {l : Launch} {d : Nat} {T0 : tm_H} {M0 : mj_M} {n0 x9 : Nat} {o0 : Nat} {x1 : Int32} (h_o0 : T0 o0 = some (0, 12, 0)) (I0 : tm_I tm_FT (tm_in w_TrustDesk_nearest) x9 T0 M0 n0 T0 M0 n0) : mj_Met g l kY_TrustDesk_nearest (d + 4) [.ref o0, .int x1] M0 n0 0 0 (tm_Q tm_FT (tm_in w_TrustDesk_nearest) x9 T0 M0 n0 (fun r _ _ => ∃ v : Int32, r = some (.int v))) := by
  refine mj_enter (by decide) (Nat.le_of_ble_eq_true rfl) ?_
  refine mv_aload_n d_TrustDesk_nearest_0 rfl rfl ?_
  refine mv_iload_n d_TrustDesk_nearest_1 rfl rfl ?_
  obtain ⟨_, b7, -⟩ := I0.1 _ _ h_o0
  refine mv_callV (kc' := 0) (ks' := 0) (As := [.int x1]) (st9 := [.int x1, .ref o0]) d_TrustDesk_nearest_2 lV_TrustDesk_257 b7 rfl (tc_TrustDesk_fundAt (d := d) (x9 := x9) (o0 := o0) (x1 := x1) h_o0 I0.start) rfl (Nat.le_of_ble_eq_true rfl) (Nat.le_of_ble_eq_true rfl) (Nat.le_of_ble_eq_true rfl) (hst := rfl) (fun b1r M2 n3 b1 => ?_)
  obtain ⟨T4, J5, b9⟩ := b1
  have I6 := I0.call J5 (tm_sub (by decide)) (Or.inl rfl)
  have t10 := J5.up h_o0
  rcases b9 with rfl | ⟨a8, rfl, t_a8⟩
  · refine mv_astore_nN (lv' := [(2, .null), (0, .ref o0), (1, .int x1)]) d_TrustDesk_nearest_5 rfl (by decide) rfl ?_
    refine mv_aload_nN d_TrustDesk_nearest_6 rfl rfl ?_
    refine mv_ifnullN (tgt := 17) d_TrustDesk_nearest_7 (by decide) ?_
    refine mv_iconst (v := (-1)) d_TrustDesk_nearest_17 (by decide) ?_
    exact mv_iret d_TrustDesk_nearest_18 rfl (by first | rfl | decide) ⟨_, I6, _, rfl⟩
  · refine mv_astore_n (lv' := [(2, .ref a8), (0, .ref o0), (1, .int x1)]) d_TrustDesk_nearest_5 rfl (by decide) rfl ?_
    refine mv_aload_n d_TrustDesk_nearest_6 rfl rfl ?_
    refine mv_ifnull d_TrustDesk_nearest_7 ?_
    refine mv_aload_n d_TrustDesk_nearest_10 rfl rfl ?_
    obtain ⟨_, b17, -⟩ := I6.1 _ _ t_a8
    refine mv_callV (kc' := 0) (ks' := 0) (As := []) (st9 := [.ref a8]) d_TrustDesk_nearest_11 lV_TrustDesk_162 b17 rfl (tc_Fund_isJoined (d := (d + 3)) (x9 := x9) (o0 := a8) t_a8 I6.start) rfl (Nat.le_of_ble_eq_true rfl) (Nat.le_of_ble_eq_true rfl) (Nat.le_of_ble_eq_true rfl) (hst := rfl) (fun b11r M12 n13 b11 => ?_)
    obtain ⟨T14, J15, v18, rfl, b19, b20⟩ := b11
    have I16 := I6.call J15 (tm_sub (by decide)) (Or.inl rfl)
    have t21 := J15.up t_a8
    have t22 := J15.up t10
    have := mz_hi v18
    refine mv_if_eqZ (tgt := 19) (a := v18.toInt) d_TrustDesk_nearest_14 (by decide) rfl (fun b23 => ?_) (fun b23 => ?_)
    · refine mv_aload_n d_TrustDesk_nearest_19 rfl rfl ?_
      refine mv_aload_n d_TrustDesk_nearest_20 rfl rfl ?_
      obtain ⟨v25, q24⟩ := tm_atI I16 t22 (k := 12) rfl
      refine tr_getK q24 d_TrustDesk_nearest_21 f_TrustDesk_73_12 ?_
      obtain ⟨_, b32, -⟩ := I16.1 _ _ t22
      refine mv_callV (kc' := 0) (ks' := 0) (As := [.int v25]) (st9 := [.int v25, .ref o0]) d_TrustDesk_nearest_24 lV_TrustDesk_114 b32 rfl (tc_TrustDesk_inForce (d := d) (x9 := x9) (o0 := o0) (x1 := v25) t22 I16.start) rfl (Nat.le_of_ble_eq_true rfl) (Nat.le_of_ble_eq_true rfl) (Nat.le_of_ble_eq_true rfl) (hst := rfl) (fun b26r M27 n28 b26 => ?_)
      obtain ⟨T29, J30, a33, rfl, t_a33⟩ := b26
      have I31 := I16.call J30 (tm_sub (by decide)) (Or.inl rfl)
      have t34 := J30.up t21
      have t35 := J30.up t22
      have q36 := J30.keep t22 (by decide) q24
      refine mv_iconst (v := 1) d_TrustDesk_nearest_27 (by decide) ?_
      obtain ⟨_, b43, -⟩ := I31.1 _ _ t_a33
      refine mv_callV (kc' := 0) (ks' := 0) (As := [.int 1]) (st9 := [.int 1, .ref a33]) d_TrustDesk_nearest_28 lV_TrustDesk_118 b43 rfl (tc_Act_rule (d := (d + 3)) (x9 := x9) (o0 := a33) (x1 := 1) t_a33 I31.start) rfl (Nat.le_of_ble_eq_true rfl) (Nat.le_of_ble_eq_true rfl) (Nat.le_of_ble_eq_true rfl) (hst := rfl) (fun b37r M38 n39 b37 => ?_)
      obtain ⟨T40, J41, v44, rfl⟩ := b37
      have I42 := I31.call J41 (tm_sub (by decide)) (Or.inl rfl)
      have t45 := J41.up t34
      have t46 := J41.up t35
      have q47 := J41.keep t35 (by decide) q36
      refine mv_iconst (v := 1) d_TrustDesk_nearest_31 (by decide) ?_
      refine mv_isub d_TrustDesk_nearest_32 ?_
      refine mv_istore_n (lv' := [(3, .int (v44 - 1)), (2, .ref a8), (0, .ref o0), (1, .int x1)]) d_TrustDesk_nearest_33 rfl (by decide) rfl ?_
      refine mv_iconst (v := (-1)) d_TrustDesk_nearest_34 (by decide) ?_
      refine mv_istore (lv' := [(4, .int (-1)), (3, .int (v44 - 1)), (2, .ref a8), (0, .ref o0), (1, .int x1)]) d_TrustDesk_nearest_35 (by decide) rfl ?_
      refine mv_iconst (v := 0) d_TrustDesk_nearest_37 (by decide) ?_
      refine mv_istore (lv' := [(5, .int 0), (4, .int (-1)), (3, .int (v44 - 1)), (2, .ref a8), (0, .ref o0), (1, .int x1)]) d_TrustDesk_nearest_38 (by decide) rfl ?_
      have L40_48 : ∀ (k : Nat) (i5_48 : Int32) (i4_48 : Int32) (i3_48 : Int32) (T_48 : tm_H) (M_48 : mj_M) (n_48 : Nat), tm_I tm_FT (tm_in w_TrustDesk_nearest) x9 T0 M0 n0 T_48 M_48 n_48 → T_48 a8 = some (0, 6, 0) → T_48 o0 = some (0, 12, 0) → 0 ≤ i5_48.toInt → 2147483647 - i5_48.toInt < (k : Int) → mj_V g l kY_TrustDesk_nearest (d + 4) 40 [(5, .int i5_48), (4, .int i4_48), (3, .int i3_48), (2, .ref a8), (0, .ref o0), (1, .int x1)] [] M_48 n_48 0 0 (tm_Q tm_FT (tm_in w_TrustDesk_nearest) x9 T0 M0 n0 (fun r _ _ => ∃ v : Int32, r = some (.int v))) := by
        intro k48
        induction k48 with
        | zero =>
          intro i5_48 i4_48 i3_48 T_48 M_48 n_48 I_48 h_q2_48 h_q0_48 iv0_48 hk48
          have := mz_hi i5_48
          omega
        | succ k48 ih48 =>
          intro i5_48 i4_48 i3_48 T_48 M_48 n_48 I_48 h_q2_48 h_q0_48 iv0_48 hk48
          refine mv_iload d_TrustDesk_nearest_40 rfl ?_
          refine mv_aload_n d_TrustDesk_nearest_42 rfl rfl ?_
          obtain ⟨a50, q49, t_a50⟩ := tm_atO I_48 h_q0_48 (k := 7) rfl
          refine tr_getK q49 d_TrustDesk_nearest_43 f_TrustDesk_56_12 ?_
          obtain ⟨m52, n56, e53, N54, f55, h51⟩ := I_48.1 _ _ t_a50
          have := h51.2.1
          have : n56.toInt ≤ 12 := h51.2.2.1
          have q57 : tm_at M_48 a50 0 2 (.int n56) := ⟨_, h51.1, rfl⟩
          refine mv_callV_s (kc' := 0) (ks' := 0) [] [.ref a50, .int i5_48] d_TrustDesk_nearest_46 lV_TrustDesk_97 h51.1 rfl (tc_L_size (d := (d + 3)) h51.1) rfl (Nat.le_of_ble_eq_true rfl) (Nat.le_of_ble_eq_true rfl) (Nat.le_of_ble_eq_true rfl) rfl ?_
          have := mz_hi i5_48
          have := mz_hi n56
          refine mv_icmp_geZ (tgt := 96) (a := i5_48.toInt) (b := n56.toInt) d_TrustDesk_nearest_49 (by decide) rfl rfl (fun b58 => ?_) (fun b58 => ?_)
          · refine mv_iload d_TrustDesk_nearest_96 rfl ?_
            exact mv_iret d_TrustDesk_nearest_98 rfl (by first | rfl | decide) ⟨_, I_48, _, rfl⟩
          · refine mv_aload_n d_TrustDesk_nearest_52 rfl rfl ?_
            refine tr_getK (k := 7) q49 d_TrustDesk_nearest_53 f_TrustDesk_56_12 ?_
            refine mv_iload d_TrustDesk_nearest_56 rfl ?_
            obtain ⟨m60, e61, N62, f63, h59⟩ := tm_lsn I_48 t_a50 q57
            obtain ⟨u64e, u64i, a65, u64f, u64t⟩ := tm_el (i := i5_48) h59 (by omega) (by omega)
            have t_a65 : T_48 a65 = some (0, 8, 0) := u64t
            refine mv_callV_s (kc' := 0) (ks' := 0) [.int i5_48] [.int i5_48, .ref a50] d_TrustDesk_nearest_58 lV_TrustDesk_158 h59.1 rfl (tc_L_get (d := (d + 1)) h59.1 u64e (by omega) (by omega) u64i u64f) rfl (Nat.le_of_ble_eq_true rfl) (Nat.le_of_ble_eq_true rfl) (Nat.le_of_ble_eq_true rfl) rfl ?_
            obtain ⟨_, b66, -⟩ := I_48.1 _ _ t_a65
            refine mv_castS (T9 := kF_NearEnd) (N := 2) d_TrustDesk_nearest_61 (mj_in1 (List.mem_of_getElem? (i := 821) (by decide +kernel)) rfl) b66 rfl ?_
            obtain ⟨v68, q67⟩ := tm_atI I_48 t_a65 (k := 1) rfl
            refine tr_getK q67 d_TrustDesk_nearest_64 f_TrustDesk_383_8 ?_
            refine mv_aload_n d_TrustDesk_nearest_67 rfl rfl ?_
            obtain ⟨v70, q69⟩ := tm_atI I_48 h_q2_48 (k := 4) rfl
            refine tr_getK q69 d_TrustDesk_nearest_68 f_TrustDesk_372_6 ?_
            refine mv_iand d_TrustDesk_nearest_71 ?_
            refine mv_callS (kc' := 0) (ks' := 0) (As := [.int (v68 &&& v70)]) (st9 := [.int (v68 &&& v70)]) d_TrustDesk_nearest_72 lS_TrustDesk_337 (tc_Integer_bitCount (d := (d + 3)) (x9 := x9) (x1 := (v68 &&& v70))  I_48.start) rfl (Nat.le_of_ble_eq_true rfl) (Nat.le_of_ble_eq_true rfl) (Nat.le_of_ble_eq_true rfl) (hst := rfl) (fun b71r M72 n73 b71 => ?_)
            obtain ⟨T74, J75, v77, rfl⟩ := b71
            have I76 := I_48.call J75 (tm_sub (by decide)) (Or.inl rfl)
            have t78 := J75.up h_q2_48
            have t79 := J75.up h_q0_48
            have q80 := J75.keep h_q0_48 (by decide) q49
            have t81 := J75.up t_a50
            have q82 := J75.keepL t_a50 (by decide) q57
            have q83 := J75.keep h_q2_48 (by decide) q69
            refine mv_istore (lv' := [(6, .int v77), (5, .int i5_48), (4, .int i4_48), (3, .int i3_48), (2, .ref a8), (0, .ref o0), (1, .int x1)]) d_TrustDesk_nearest_75 (by decide) rfl ?_
            refine mv_iload d_TrustDesk_nearest_77 rfl ?_
            refine mv_iload_n d_TrustDesk_nearest_79 rfl rfl ?_
            have := mz_hi v77
            have := mz_hi i3_48
            refine mv_icmp_leZ (tgt := 90) (a := v77.toInt) (b := i3_48.toInt) d_TrustDesk_nearest_80 (by decide) rfl rfl (fun b84 => ?_) (fun b84 => ?_)
            · refine mv_iinc (v := (i5_48 + 1)) (lv' := [(5, .int (i5_48 + 1)), (6, .int v77), (4, .int i4_48), (3, .int i3_48), (2, .ref a8), (0, .ref o0), (1, .int x1)]) d_TrustDesk_nearest_90 rfl rfl (by decide) rfl ?_
              refine mv_goto (tgt := 40) d_TrustDesk_nearest_93 (by decide) ?_
              refine mv_locals (lv' := [(5, .int (i5_48 + 1)), (4, .int i4_48), (3, .int i3_48), (2, .ref a8), (0, .ref o0), (1, .int x1)]) (by intro q hq; simp only [List.mem_cons, List.not_mem_nil, or_false] at hq; rcases hq with rfl | rfl | rfl | rfl | rfl | rfl <;> rfl) ?_
              have b85 : (i5_48 + 1).toInt = i5_48.toInt + 1 := mz_addn 1 1 (by decide) (by have := mz_lo i5_48; omega) (by have := mz_hi i5_48; omega)
              exact (ih48 (i5_48 + 1) i4_48 i3_48 T74 M72 n73 I76 t78 t79 (by first | omega | decide) (by omega))
            · refine mv_iload d_TrustDesk_nearest_83 rfl ?_
              refine mv_istore_n (lv' := [(3, .int v77), (6, .int v77), (5, .int i5_48), (4, .int i4_48), (2, .ref a8), (0, .ref o0), (1, .int x1)]) d_TrustDesk_nearest_85 rfl (by decide) rfl ?_
              refine mv_iload d_TrustDesk_nearest_86 rfl ?_
              refine mv_istore (lv' := [(4, .int i5_48), (3, .int v77), (6, .int v77), (5, .int i5_48), (2, .ref a8), (0, .ref o0), (1, .int x1)]) d_TrustDesk_nearest_88 (by decide) rfl ?_
              refine mv_iinc (v := (i5_48 + 1)) (lv' := [(5, .int (i5_48 + 1)), (4, .int i5_48), (3, .int v77), (6, .int v77), (2, .ref a8), (0, .ref o0), (1, .int x1)]) d_TrustDesk_nearest_90 rfl rfl (by decide) rfl ?_
              refine mv_goto (tgt := 40) d_TrustDesk_nearest_93 (by decide) ?_
              refine mv_locals (lv' := [(5, .int (i5_48 + 1)), (4, .int i5_48), (3, .int v77), (2, .ref a8), (0, .ref o0), (1, .int x1)]) (by intro q hq; simp only [List.mem_cons, List.not_mem_nil, or_false] at hq; rcases hq with rfl | rfl | rfl | rfl | rfl | rfl <;> rfl) ?_
              have b86 : (i5_48 + 1).toInt = i5_48.toInt + 1 := mz_addn 1 1 (by decide) (by have := mz_lo i5_48; omega) (by have := mz_hi i5_48; omega)
              exact (ih48 (i5_48 + 1) i5_48 v77 T74 M72 n73 I76 t78 t79 (by first | omega | decide) (by omega))
      exact mv_less (Nat.zero_le _) (Nat.zero_le _) (L40_48 4294967296 0 (-1) (v44 - 1) T40 M38 n39 I42 t45 t46 (by first | omega | decide) (by show (2147483647 - (0 : Int) : Int) < _; decide))
    · refine mv_iconst (v := (-1)) d_TrustDesk_nearest_17 (by decide) ?_
      exact mv_iret d_TrustDesk_nearest_18 rfl (by first | rfl | decide) ⟨_, I16, _, rfl⟩
abbrev kY_TrustDesk_objects : mj_Y := (⟨"TrustDesk", "objects", "(II)Z"⟩, prog_1_method_20_code, 4, (Option.some Jvm.ClassFile.FieldType.boolean))
theorem d_TrustDesk_objects_0 : decode kY_TrustDesk_objects.2.1 0 = .ok (.aload_n 0, 1) := by decide +kernel
theorem d_TrustDesk_objects_1 : decode kY_TrustDesk_objects.2.1 1 = .ok (.iload_n 1, 1) := by decide +kernel
theorem d_TrustDesk_objects_2 : decode kY_TrustDesk_objects.2.1 2 = .ok (.invokevirtual 280, 3) := by decide +kernel
abbrev kY_TrustDesk_schemeAt : mj_Y := (⟨"TrustDesk", "schemeAt", "(I)LTrustDesk$Scheme;"⟩, prog_1_method_63_code, 2, (Option.some (Jvm.ClassFile.FieldType.object "TrustDesk$Scheme")))
theorem d_TrustDesk_schemeAt_0 : decode kY_TrustDesk_schemeAt.2.1 0 = .ok (.iload_n 1, 1) := by decide +kernel
theorem d_TrustDesk_schemeAt_1 : decode kY_TrustDesk_schemeAt.2.1 1 = .ok (.ifCond .lt 28, 3) := by decide +kernel
theorem d_TrustDesk_schemeAt_29 : decode kY_TrustDesk_schemeAt.2.1 29 = .ok (.aconst_null, 1) := by decide +kernel
theorem d_TrustDesk_schemeAt_30 : decode kY_TrustDesk_schemeAt.2.1 30 = .ok (.areturn, 1) := by decide +kernel
theorem d_TrustDesk_schemeAt_4 : decode kY_TrustDesk_schemeAt.2.1 4 = .ok (.iload_n 1, 1) := by decide +kernel
theorem d_TrustDesk_schemeAt_5 : decode kY_TrustDesk_schemeAt.2.1 5 = .ok (.aload_n 0, 1) := by decide +kernel
theorem d_TrustDesk_schemeAt_6 : decode kY_TrustDesk_schemeAt.2.1 6 = .ok (.getfield 59, 3) := by decide +kernel
theorem d_TrustDesk_schemeAt_9 : decode kY_TrustDesk_schemeAt.2.1 9 = .ok (.invokevirtual 97, 3) := by decide +kernel
theorem d_TrustDesk_schemeAt_12 : decode kY_TrustDesk_schemeAt.2.1 12 = .ok (.if_icmp .ge 17, 3) := by decide +kernel
theorem d_TrustDesk_schemeAt_15 : decode kY_TrustDesk_schemeAt.2.1 15 = .ok (.aload_n 0, 1) := by decide +kernel
theorem d_TrustDesk_schemeAt_16 : decode kY_TrustDesk_schemeAt.2.1 16 = .ok (.getfield 59, 3) := by decide +kernel
theorem d_TrustDesk_schemeAt_19 : decode kY_TrustDesk_schemeAt.2.1 19 = .ok (.iload_n 1, 1) := by decide +kernel
theorem d_TrustDesk_schemeAt_20 : decode kY_TrustDesk_schemeAt.2.1 20 = .ok (.invokevirtual 158, 3) := by decide +kernel
theorem d_TrustDesk_schemeAt_23 : decode kY_TrustDesk_schemeAt.2.1 23 = .ok (.checkcast 271, 3) := by decide +kernel
theorem d_TrustDesk_schemeAt_26 : decode kY_TrustDesk_schemeAt.2.1 26 = .ok (.goto 4, 3) := by decide +kernel
def w_TrustDesk_schemeAt : List Nat := []
theorem tc_TrustDesk_schemeAt {g : mj_G} {l : Launch} {d : Nat} {T0 : tm_H} {M0 : mj_M} {n0 x9 : Nat} {o0 : Nat} {x1 : Int32} (h_o0 : T0 o0 = some (0, 12, 0)) (I0 : tm_I tm_FT (tm_in w_TrustDesk_schemeAt) x9 T0 M0 n0 T0 M0 n0) : mj_Met g l kY_TrustDesk_schemeAt (d + 3) [.ref o0, .int x1] M0 n0 0 0 (tm_Q tm_FT (tm_in w_TrustDesk_schemeAt) x9 T0 M0 n0 (fun r T _ => r = some .null ∨ ∃ b, r = some (.ref b) ∧ T b = some (0, 11, 0))) := by
  refine mj_enter (by decide) (Nat.le_of_ble_eq_true rfl) ?_
  refine mv_iload_n d_TrustDesk_schemeAt_0 rfl rfl ?_
  have := mz_hi x1
  refine mv_if_ltZ (tgt := 29) (a := x1.toInt) d_TrustDesk_schemeAt_1 (by decide) rfl (fun b1 => ?_) (fun b1 => ?_)
  · refine mv_null d_TrustDesk_schemeAt_29 ?_
    exact mv_aret (r := none) d_TrustDesk_schemeAt_30 rfl (by first | exact Or.inl ⟨_, rfl⟩ | exact Or.inr ⟨_, rfl⟩) ⟨_, I0, Or.inl rfl⟩
  · refine mv_iload_n d_TrustDesk_schemeAt_4 rfl rfl ?_
    refine mv_aload_n d_TrustDesk_schemeAt_5 rfl rfl ?_
    obtain ⟨a3, q2, t_a3⟩ := tm_atO I0 h_o0 (k := 8) rfl
    refine tr_getK q2 d_TrustDesk_schemeAt_6 f_TrustDesk_59_12 ?_
    obtain ⟨m5, n9, e6, N7, f8, h4⟩ := I0.1 _ _ t_a3
    have := h4.2.1
    have : n9.toInt ≤ 40 := h4.2.2.1
    have q10 : tm_at M0 a3 0 2 (.int n9) := ⟨_, h4.1, rfl⟩
    refine mv_callV_s (kc' := 0) (ks' := 0) [] [.ref a3, .int x1] d_TrustDesk_schemeAt_9 lV_TrustDesk_97 h4.1 rfl (tc_L_size (d := (d + 2)) h4.1) rfl (Nat.le_of_ble_eq_true rfl) (Nat.le_of_ble_eq_true rfl) (Nat.le_of_ble_eq_true rfl) rfl ?_
    have := mz_hi x1
    have := mz_hi n9
    refine mv_icmp_geZ (tgt := 29) (a := x1.toInt) (b := n9.toInt) d_TrustDesk_schemeAt_12 (by decide) rfl rfl (fun b11 => ?_) (fun b11 => ?_)
    · refine mv_null d_TrustDesk_schemeAt_29 ?_
      exact mv_aret (r := none) d_TrustDesk_schemeAt_30 rfl (by first | exact Or.inl ⟨_, rfl⟩ | exact Or.inr ⟨_, rfl⟩) ⟨_, I0, Or.inl rfl⟩
    · refine mv_aload_n d_TrustDesk_schemeAt_15 rfl rfl ?_
      refine tr_getK (k := 8) q2 d_TrustDesk_schemeAt_16 f_TrustDesk_59_12 ?_
      refine mv_iload_n d_TrustDesk_schemeAt_19 rfl rfl ?_
      obtain ⟨m13, e14, N15, f16, h12⟩ := tm_lsn I0 t_a3 q10
      obtain ⟨u17e, u17i, a18, u17f, u17t⟩ := tm_el (i := x1) h12 (by omega) (by omega)
      have t_a18 : T0 a18 = some (0, 11, 0) := u17t
      refine mv_callV_s (kc' := 0) (ks' := 0) [.int x1] [.int x1, .ref a3] d_TrustDesk_schemeAt_20 lV_TrustDesk_158 h12.1 rfl (tc_L_get (d := d) h12.1 u17e (by omega) (by omega) u17i u17f) rfl (Nat.le_of_ble_eq_true rfl) (Nat.le_of_ble_eq_true rfl) (Nat.le_of_ble_eq_true rfl) rfl ?_
      obtain ⟨_, b19, -⟩ := I0.1 _ _ t_a18
      refine mv_castS (T9 := kF_Scheme) (N := 12) d_TrustDesk_schemeAt_23 (mj_in1 (List.mem_of_getElem? (i := 961) (by decide +kernel)) rfl) b19 rfl ?_
      refine mv_goto (tgt := 30) d_TrustDesk_schemeAt_26 (by decide) ?_
      exact mv_aret (r := some a18) d_TrustDesk_schemeAt_30 rfl (by first | exact Or.inl ⟨_, rfl⟩ | exact Or.inr ⟨_, rfl⟩) ⟨_, I0, Or.inr ⟨_, rfl, t_a18⟩⟩
theorem lV_TrustDesk_280 : mj_lV "TrustDesk" 280 kY_TrustDesk_schemeAt 1 := ⟨⟨(mj_in1 (List.mem_of_getElem? (i := 1017) (by decide +kernel)) rfl), (mj_in1 (List.mem_of_getElem? (i := 1) (by decide +kernel)) rfl), (mj_in1 (List.mem_of_getElem? (i := 1020) (by decide +kernel)) rfl), by decide, rfl, by decide⟩, (mj_in1 (List.mem_of_getElem? (i := 1019) (by decide +kernel)) rfl), (mj_in (List.mem_append_left _ (List.mem_of_getElem? (i := 52) (by decide +kernel))) rfl)⟩
theorem d_TrustDesk_objects_5 : decode kY_TrustDesk_objects.2.1 5 = .ok (.astore_n 3, 1) := by decide +kernel
theorem d_TrustDesk_objects_6 : decode kY_TrustDesk_objects.2.1 6 = .ok (.aload_n 3, 1) := by decide +kernel
theorem d_TrustDesk_objects_7 : decode kY_TrustDesk_objects.2.1 7 = .ok (.ifnull 28, 3) := by decide +kernel
theorem d_TrustDesk_objects_35 : decode kY_TrustDesk_objects.2.1 35 = .ok (.iconst 0, 1) := by decide +kernel
theorem d_TrustDesk_objects_36 : decode kY_TrustDesk_objects.2.1 36 = .ok (.ireturn, 1) := by decide +kernel
theorem d_TrustDesk_objects_10 : decode kY_TrustDesk_objects.2.1 10 = .ok (.iload_n 2, 1) := by decide +kernel
theorem d_TrustDesk_objects_11 : decode kY_TrustDesk_objects.2.1 11 = .ok (.invokestatic 261, 3) := by decide +kernel
theorem lS_TrustDesk_261 : mj_lS "TrustDesk" 261 kY_TrustDesk_isPerson 1 := ⟨⟨(mj_in1 (List.mem_of_getElem? (i := 942) (by decide +kernel)) rfl), (mj_in1 (List.mem_of_getElem? (i := 1) (by decide +kernel)) rfl), (mj_in1 (List.mem_of_getElem? (i := 944) (by decide +kernel)) rfl), by decide, rfl, by decide⟩, (mj_in1 (List.mem_of_getElem? (i := 943) (by decide +kernel)) rfl)⟩
theorem d_TrustDesk_objects_14 : decode kY_TrustDesk_objects.2.1 14 = .ok (.ifCond .eq 21, 3) := by decide +kernel
theorem d_TrustDesk_objects_17 : decode kY_TrustDesk_objects.2.1 17 = .ok (.aload_n 3, 1) := by decide +kernel
theorem d_TrustDesk_objects_18 : decode kY_TrustDesk_objects.2.1 18 = .ok (.getfield 284, 3) := by decide +kernel
theorem d_TrustDesk_objects_21 : decode kY_TrustDesk_objects.2.1 21 = .ok (.ifCond .ne 14, 3) := by decide +kernel
theorem d_TrustDesk_objects_24 : decode kY_TrustDesk_objects.2.1 24 = .ok (.aload_n 0, 1) := by decide +kernel
theorem d_TrustDesk_objects_25 : decode kY_TrustDesk_objects.2.1 25 = .ok (.getfield 73, 3) := by decide +kernel
theorem d_TrustDesk_objects_28 : decode kY_TrustDesk_objects.2.1 28 = .ok (.aload_n 3, 1) := by decide +kernel
theorem d_TrustDesk_objects_29 : decode kY_TrustDesk_objects.2.1 29 = .ok (.getfield 285, 3) := by decide +kernel
theorem f_TrustDesk_285_11 : mj_fl "TrustDesk" 285 11 4 := ⟨kR_Scheme, kF_Scheme, 12, "TrustDesk$Scheme", rfl, kg_11, by decide, (mj_in1 (List.mem_of_getElem? (i := 976) (by decide +kernel)) rfl), Or.inl rfl⟩
theorem d_TrustDesk_objects_32 : decode kY_TrustDesk_objects.2.1 32 = .ok (.if_icmp .le 5, 3) := by decide +kernel
theorem d_TrustDesk_objects_37 : decode kY_TrustDesk_objects.2.1 37 = .ok (.aload_n 3, 1) := by decide +kernel
theorem d_TrustDesk_objects_38 : decode kY_TrustDesk_objects.2.1 38 = .ok (.iload_n 2, 1) := by decide +kernel
theorem d_TrustDesk_objects_39 : decode kY_TrustDesk_objects.2.1 39 = .ok (.invokevirtual 288, 3) := by decide +kernel
abbrev kY_Scheme_takeObjection : mj_Y := (⟨"TrustDesk$Scheme", "takeObjection", "(I)Z"⟩, prog_12_method_2_code, 2, (Option.some Jvm.ClassFile.FieldType.boolean))
theorem d_Scheme_takeObjection_0 : decode kY_Scheme_takeObjection.2.1 0 = .ok (.iload_n 1, 1) := by decide +kernel
theorem d_Scheme_takeObjection_1 : decode kY_Scheme_takeObjection.2.1 1 = .ok (.ifCond .lt 27, 3) := by decide +kernel
theorem d_Scheme_takeObjection_28 : decode kY_Scheme_takeObjection.2.1 28 = .ok (.iconst 0, 1) := by decide +kernel
theorem d_Scheme_takeObjection_29 : decode kY_Scheme_takeObjection.2.1 29 = .ok (.ireturn, 1) := by decide +kernel
theorem d_Scheme_takeObjection_4 : decode kY_Scheme_takeObjection.2.1 4 = .ok (.iload_n 1, 1) := by decide +kernel
theorem d_Scheme_takeObjection_5 : decode kY_Scheme_takeObjection.2.1 5 = .ok (.bipush 100, 2) := by decide +kernel
theorem d_Scheme_takeObjection_7 : decode kY_Scheme_takeObjection.2.1 7 = .ok (.if_icmp .ge 21, 3) := by decide +kernel
theorem d_Scheme_takeObjection_10 : decode kY_Scheme_takeObjection.2.1 10 = .ok (.aload_n 0, 1) := by decide +kernel
theorem d_Scheme_takeObjection_11 : decode kY_Scheme_takeObjection.2.1 11 = .ok (.getfield 15, 3) := by decide +kernel
theorem f_Scheme_15_11 : mj_fl "TrustDesk$Scheme" 15 11 10 := ⟨kR_Scheme, kF_Scheme, 12, "TrustDesk$Scheme", rfl, kg_11, by decide, (mj_in1 (List.mem_of_getElem? (i := 986) (by decide +kernel)) rfl), Or.inl rfl⟩
theorem d_Scheme_takeObjection_14 : decode kY_Scheme_takeObjection.2.1 14 = .ok (.iload_n 1, 1) := by decide +kernel
theorem d_Scheme_takeObjection_15 : decode kY_Scheme_takeObjection.2.1 15 = .ok (.baload, 1) := by decide +kernel
theorem d_Scheme_takeObjection_16 : decode kY_Scheme_takeObjection.2.1 16 = .ok (.ifCond .ne 12, 3) := by decide +kernel
theorem d_Scheme_takeObjection_19 : decode kY_Scheme_takeObjection.2.1 19 = .ok (.aload_n 0, 1) := by decide +kernel
theorem d_Scheme_takeObjection_20 : decode kY_Scheme_takeObjection.2.1 20 = .ok (.getfield 38, 3) := by decide +kernel
theorem f_Scheme_38_11 : mj_fl "TrustDesk$Scheme" 38 11 7 := ⟨kR_Scheme, kF_Scheme, 12, "TrustDesk$Scheme", rfl, kg_11, by decide, (mj_in1 (List.mem_of_getElem? (i := 980) (by decide +kernel)) rfl), Or.inl rfl⟩
theorem d_Scheme_takeObjection_23 : decode kY_Scheme_takeObjection.2.1 23 = .ok (.bipush 10, 2) := by decide +kernel
theorem d_Scheme_takeObjection_25 : decode kY_Scheme_takeObjection.2.1 25 = .ok (.if_icmp .lt 5, 3) := by decide +kernel
theorem d_Scheme_takeObjection_30 : decode kY_Scheme_takeObjection.2.1 30 = .ok (.aload_n 0, 1) := by decide +kernel
theorem d_Scheme_takeObjection_31 : decode kY_Scheme_takeObjection.2.1 31 = .ok (.getfield 15, 3) := by decide +kernel
theorem d_Scheme_takeObjection_34 : decode kY_Scheme_takeObjection.2.1 34 = .ok (.iload_n 1, 1) := by decide +kernel
theorem d_Scheme_takeObjection_35 : decode kY_Scheme_takeObjection.2.1 35 = .ok (.iconst 1, 1) := by decide +kernel
theorem d_Scheme_takeObjection_36 : decode kY_Scheme_takeObjection.2.1 36 = .ok (.bastore, 1) := by decide +kernel
theorem d_Scheme_takeObjection_37 : decode kY_Scheme_takeObjection.2.1 37 = .ok (.aload_n 0, 1) := by decide +kernel
theorem d_Scheme_takeObjection_38 : decode kY_Scheme_takeObjection.2.1 38 = .ok (.dup, 1) := by decide +kernel
theorem d_Scheme_takeObjection_39 : decode kY_Scheme_takeObjection.2.1 39 = .ok (.getfield 38, 3) := by decide +kernel
theorem d_Scheme_takeObjection_42 : decode kY_Scheme_takeObjection.2.1 42 = .ok (.iconst 1, 1) := by decide +kernel
theorem d_Scheme_takeObjection_43 : decode kY_Scheme_takeObjection.2.1 43 = .ok (.iadd, 1) := by decide +kernel
theorem d_Scheme_takeObjection_44 : decode kY_Scheme_takeObjection.2.1 44 = .ok (.putfield 38, 3) := by decide +kernel
theorem p_Scheme_38_11 : mj_fp "TrustDesk$Scheme" 38 11 7 (kt_Scheme 7) false := ⟨kR_Scheme, kF_Scheme, 12, "TrustDesk$Scheme", kt_Scheme, rfl, kg_11, by decide, (mj_in1 (List.mem_of_getElem? (i := 980) (by decide +kernel)) rfl), Or.inl rfl, kto_Scheme, kn_Scheme, rfl, rfl, fun h => by cases h⟩
theorem d_Scheme_takeObjection_47 : decode kY_Scheme_takeObjection.2.1 47 = .ok (.iconst 1, 1) := by decide +kernel
theorem d_Scheme_takeObjection_48 : decode kY_Scheme_takeObjection.2.1 48 = .ok (.ireturn, 1) := by decide +kernel
def w_Scheme_takeObjection : List Nat := [1107, 1160]
theorem tc_Scheme_takeObjection {g : mj_G} {l : Launch} {d : Nat} {T0 : tm_H} {M0 : mj_M} {n0 x9 : Nat} {o0 : Nat} {x1 : Int32} (h_o0 : T0 o0 = some (0, 11, 0)) (I0 : tm_I tm_FT (tm_in w_Scheme_takeObjection) x9 T0 M0 n0 T0 M0 n0) : mj_Met g l kY_Scheme_takeObjection d [.ref o0, .int x1] M0 n0 0 0 (tm_Q tm_FT (tm_in w_Scheme_takeObjection) x9 T0 M0 n0 (fun r _ _ => ∃ v : Int32, r = some (.int v) ∧ 0 ≤ v.toInt ∧ v.toInt ≤ 1)) := by
  refine mj_enter (by decide) (Nat.le_of_ble_eq_true rfl) ?_
  refine mv_iload_n d_Scheme_takeObjection_0 rfl rfl ?_
  have := mz_hi x1
  refine mv_if_ltZ (tgt := 28) (a := x1.toInt) d_Scheme_takeObjection_1 (by decide) rfl (fun b1 => ?_) (fun b1 => ?_)
  · refine mv_iconst (v := 0) d_Scheme_takeObjection_28 (by decide) ?_
    exact mv_iret d_Scheme_takeObjection_29 rfl (by decide) ⟨_, I0, _, rfl, by decide, by decide⟩
  · refine mv_iload_n d_Scheme_takeObjection_4 rfl rfl ?_
    refine mv_bipush (v := 100) d_Scheme_takeObjection_5 (by decide) ?_
    have := mz_hi x1
    refine mv_icmp_geZ (tgt := 28) (a := x1.toInt) (b := 100) d_Scheme_takeObjection_7 (by decide) rfl (by decide) (fun b2 => ?_) (fun b2 => ?_)
    · refine mv_iconst (v := 0) d_Scheme_takeObjection_28 (by decide) ?_
      exact mv_iret d_Scheme_takeObjection_29 rfl (by decide) ⟨_, I0, _, rfl, by decide, by decide⟩
    · refine mv_aload_n d_Scheme_takeObjection_10 rfl rfl ?_
      obtain ⟨a4, q3, t_a4⟩ := tm_atR I0 h_o0 (k := 10) rfl
      refine tr_getK q3 d_Scheme_takeObjection_11 f_Scheme_15_11 ?_
      refine mv_iload_n d_Scheme_takeObjection_14 rfl rfl ?_
      refine tr_zald I0 t_a4 (by decide) d_Scheme_takeObjection_15 (vp_in_iff.mpr (by omega)) (fun v5 => ?_)
      have := mz_hi v5
      refine mv_if_neZ (tgt := 28) (a := v5.toInt) d_Scheme_takeObjection_16 (by decide) rfl (fun b6 => ?_) (fun b6 => ?_)
      · refine mv_iconst (v := 0) d_Scheme_takeObjection_28 (by decide) ?_
        exact mv_iret d_Scheme_takeObjection_29 rfl (by decide) ⟨_, I0, _, rfl, by decide, by decide⟩
      · refine mv_aload_n d_Scheme_takeObjection_19 rfl rfl ?_
        obtain ⟨v8, q7⟩ := tm_atI I0 h_o0 (k := 7) rfl
        refine tr_getK q7 d_Scheme_takeObjection_20 f_Scheme_38_11 ?_
        refine mv_bipush (v := 10) d_Scheme_takeObjection_23 (by decide) ?_
        have := mz_hi v8
        refine mv_icmp_ltZ (tgt := 30) (a := v8.toInt) (b := 10) d_Scheme_takeObjection_25 (by decide) rfl (by decide) (fun b9 => ?_) (fun b9 => ?_)
        · refine mv_aload_n d_Scheme_takeObjection_30 rfl rfl ?_
          refine tr_getK (k := 10) q3 d_Scheme_takeObjection_31 f_Scheme_15_11 ?_
          refine mv_iload_n d_Scheme_takeObjection_34 rfl rfl ?_
          refine mv_iconst (v := 1) d_Scheme_takeObjection_35 (by decide) ?_
          refine tr_zastK tm_okF I0 t_a4 (by decide) (Or.inl (by decide)) d_Scheme_takeObjection_36 (vp_in_iff.mpr (by omega)) (fun M10 I11 K12 => ?_)
          refine mv_aload_n d_Scheme_takeObjection_37 rfl rfl ?_
          refine mv_dup d_Scheme_takeObjection_38 rfl ?_
          refine tr_getK (k := 7) (K12 _ 11 7 _ q7) d_Scheme_takeObjection_39 f_Scheme_38_11 ?_
          refine mv_iconst (v := 1) d_Scheme_takeObjection_42 (by decide) ?_
          refine mv_iadd d_Scheme_takeObjection_43 ?_
          refine tr_putK tm_okF I11 h_o0 (k := 7) rfl ⟨_, rfl⟩ (Or.inl (by decide)) d_Scheme_takeObjection_44 p_Scheme_38_11 rfl rfl (fun M13 I14 q15 K16 => ?_)
          refine mv_iconst (v := 1) d_Scheme_takeObjection_47 (by decide) ?_
          exact mv_iret d_Scheme_takeObjection_48 rfl (by decide) ⟨_, I14, _, rfl, by decide, by decide⟩
        · refine mv_iconst (v := 0) d_Scheme_takeObjection_28 (by decide) ?_
          exact mv_iret d_Scheme_takeObjection_29 rfl (by decide) ⟨_, I0, _, rfl, by decide, by decide⟩
theorem lV_TrustDesk_288 : mj_lV "TrustDesk" 288 kY_Scheme_takeObjection 1 := ⟨⟨(mj_in1 (List.mem_of_getElem? (i := 1021) (by decide +kernel)) rfl), (mj_in1 (List.mem_of_getElem? (i := 25) (by decide +kernel)) rfl), (mj_in1 (List.mem_of_getElem? (i := 1024) (by decide +kernel)) rfl), by decide, rfl, by decide⟩, (mj_in1 (List.mem_of_getElem? (i := 1022) (by decide +kernel)) rfl), (mj_in1 (List.mem_of_getElem? (i := 1023) (by decide +kernel)) rfl)⟩
theorem d_TrustDesk_objects_42 : decode kY_TrustDesk_objects.2.1 42 = .ok (.ireturn, 1) := by decide +kernel
def w_TrustDesk_objects : List Nat := [1107, 1160]
theorem tc_TrustDesk_objects {g : mj_G} {l : Launch} {d : Nat} {T0 : tm_H} {M0 : mj_M} {n0 x9 : Nat} {o0 : Nat} {x1 : Int32} {x2 : Int32} (h_o0 : T0 o0 = some (0, 12, 0)) (I0 : tm_I tm_FT (tm_in w_TrustDesk_objects) x9 T0 M0 n0 T0 M0 n0) : mj_Met g l kY_TrustDesk_objects (d + 4) [.ref o0, .int x1, .int x2] M0 n0 0 0 (tm_Q tm_FT (tm_in w_TrustDesk_objects) x9 T0 M0 n0 (fun r _ _ => ∃ v : Int32, r = some (.int v) ∧ 0 ≤ v.toInt ∧ v.toInt ≤ 1)) := by
  refine mj_enter (by decide) (Nat.le_of_ble_eq_true rfl) ?_
  refine mv_aload_n d_TrustDesk_objects_0 rfl rfl ?_
  refine mv_iload_n d_TrustDesk_objects_1 rfl rfl ?_
  obtain ⟨_, b7, -⟩ := I0.1 _ _ h_o0
  refine mv_callV (kc' := 0) (ks' := 0) (As := [.int x1]) (st9 := [.int x1, .ref o0]) d_TrustDesk_objects_2 lV_TrustDesk_280 b7 rfl (tc_TrustDesk_schemeAt (d := d) (x9 := x9) (o0 := o0) (x1 := x1) h_o0 I0.start) rfl (Nat.le_of_ble_eq_true rfl) (Nat.le_of_ble_eq_true rfl) (Nat.le_of_ble_eq_true rfl) (hst := rfl) (fun b1r M2 n3 b1 => ?_)
  obtain ⟨T4, J5, b9⟩ := b1
  have I6 := I0.call J5 (tm_sub (by decide)) (Or.inl rfl)
  have t10 := J5.up h_o0
  rcases b9 with rfl | ⟨a8, rfl, t_a8⟩
  · refine mv_astore_nN (lv' := [(3, .null), (0, .ref o0), (1, .int x1), (2, .int x2)]) d_TrustDesk_objects_5 rfl (by decide) rfl ?_
    refine mv_aload_nN d_TrustDesk_objects_6 rfl rfl ?_
    refine mv_ifnullN (tgt := 35) d_TrustDesk_objects_7 (by decide) ?_
    refine mv_iconst (v := 0) d_TrustDesk_objects_35 (by decide) ?_
    exact mv_iret d_TrustDesk_objects_36 rfl (by decide) ⟨_, I6, _, rfl, by decide, by decide⟩
  · refine mv_astore_n (lv' := [(3, .ref a8), (0, .ref o0), (1, .int x1), (2, .int x2)]) d_TrustDesk_objects_5 rfl (by decide) rfl ?_
    refine mv_aload_n d_TrustDesk_objects_6 rfl rfl ?_
    refine mv_ifnull d_TrustDesk_objects_7 ?_
    refine mv_iload_n d_TrustDesk_objects_10 rfl rfl ?_
    refine mv_callS (kc' := 0) (ks' := 0) (As := [.int x2]) (st9 := [.int x2]) d_TrustDesk_objects_11 lS_TrustDesk_261 (tc_TrustDesk_isPerson (d := (d + 3)) (x9 := x9) (x1 := x2)  I6.start) rfl (Nat.le_of_ble_eq_true rfl) (Nat.le_of_ble_eq_true rfl) (Nat.le_of_ble_eq_true rfl) (hst := rfl) (fun b11r M12 n13 b11 => ?_)
    obtain ⟨T14, J15, v17, rfl, b18, b19⟩ := b11
    have I16 := I6.call J15 (tm_sub (by decide)) (Or.inl rfl)
    have t20 := J15.up t_a8
    have t21 := J15.up t10
    have := mz_hi v17
    refine mv_if_eqZ (tgt := 35) (a := v17.toInt) d_TrustDesk_objects_14 (by decide) rfl (fun b22 => ?_) (fun b22 => ?_)
    · refine mv_iconst (v := 0) d_TrustDesk_objects_35 (by decide) ?_
      exact mv_iret d_TrustDesk_objects_36 rfl (by decide) ⟨_, I16, _, rfl, by decide, by decide⟩
    · refine mv_aload_n d_TrustDesk_objects_17 rfl rfl ?_
      obtain ⟨v24, q23⟩ := tm_atI I16 t20 (k := 5) rfl
      refine tr_getK q23 d_TrustDesk_objects_18 f_TrustDesk_284_11 ?_
      have := mz_hi v24
      refine mv_if_neZ (tgt := 35) (a := v24.toInt) d_TrustDesk_objects_21 (by decide) rfl (fun b25 => ?_) (fun b25 => ?_)
      · refine mv_iconst (v := 0) d_TrustDesk_objects_35 (by decide) ?_
        exact mv_iret d_TrustDesk_objects_36 rfl (by decide) ⟨_, I16, _, rfl, by decide, by decide⟩
      · refine mv_aload_n d_TrustDesk_objects_24 rfl rfl ?_
        obtain ⟨v27, q26⟩ := tm_atI I16 t21 (k := 12) rfl
        refine tr_getK q26 d_TrustDesk_objects_25 f_TrustDesk_73_12 ?_
        refine mv_aload_n d_TrustDesk_objects_28 rfl rfl ?_
        obtain ⟨v29, q28⟩ := tm_atI I16 t20 (k := 4) rfl
        refine tr_getK q28 d_TrustDesk_objects_29 f_TrustDesk_285_11 ?_
        have := mz_hi v27
        have := mz_hi v29
        refine mv_icmp_leZ (tgt := 37) (a := v27.toInt) (b := v29.toInt) d_TrustDesk_objects_32 (by decide) rfl rfl (fun b30 => ?_) (fun b30 => ?_)
        · refine mv_aload_n d_TrustDesk_objects_37 rfl rfl ?_
          refine mv_iload_n d_TrustDesk_objects_38 rfl rfl ?_
          obtain ⟨_, b37, -⟩ := I16.1 _ _ t20
          refine mv_callV (kc' := 0) (ks' := 0) (As := [.int x2]) (st9 := [.int x2, .ref a8]) d_TrustDesk_objects_39 lV_TrustDesk_288 b37 rfl (tc_Scheme_takeObjection (d := (d + 3)) (x9 := x9) (o0 := a8) (x1 := x2) t20 I16.start) rfl (Nat.le_of_ble_eq_true rfl) (Nat.le_of_ble_eq_true rfl) (Nat.le_of_ble_eq_true rfl) (hst := rfl) (fun b31r M32 n33 b31 => ?_)
          obtain ⟨T34, J35, v38, rfl, b39, b40⟩ := b31
          have I36 := I16.call J35 (tm_sub (by decide)) (Or.inl rfl)
          have t41 := J35.up t20
          have t42 := J35.up t21
          have q43 := J35.keep t20 (by decide) q23
          have q44 := J35.keep t21 (by decide) q26
          have q45 := J35.keep t20 (by decide) q28
          exact mv_iret d_TrustDesk_objects_42 rfl (mz_nb (by omega) (by omega)) ⟨_, I36, _, rfl, by omega, by omega⟩
        · refine mv_iconst (v := 0) d_TrustDesk_objects_35 (by decide) ?_
          exact mv_iret d_TrustDesk_objects_36 rfl (by decide) ⟨_, I16, _, rfl, by decide, by decide⟩
abbrev kY_TrustDesk_paid : mj_Y := (⟨"TrustDesk", "paid", "(I)J"⟩, prog_1_method_42_code, 3, (Option.some Jvm.ClassFile.FieldType.long))
theorem d_TrustDesk_paid_0 : decode kY_TrustDesk_paid.2.1 0 = .ok (.aload_n 0, 1) := by decide +kernel
theorem d_TrustDesk_paid_1 : decode kY_TrustDesk_paid.2.1 1 = .ok (.iload_n 1, 1) := by decide +kernel
theorem d_TrustDesk_paid_2 : decode kY_TrustDesk_paid.2.1 2 = .ok (.invokevirtual 257, 3) := by decide +kernel
theorem d_TrustDesk_paid_5 : decode kY_TrustDesk_paid.2.1 5 = .ok (.astore_n 2, 1) := by decide +kernel
theorem d_TrustDesk_paid_6 : decode kY_TrustDesk_paid.2.1 6 = .ok (.aload_n 2, 1) := by decide +kernel
theorem d_TrustDesk_paid_7 : decode kY_TrustDesk_paid.2.1 7 = .ok (.ifnonnull 9, 3) := by decide +kernel
theorem d_TrustDesk_paid_10 : decode kY_TrustDesk_paid.2.1 10 = .ok (.ldc2_w 463, 3) := by decide +kernel
theorem d_TrustDesk_paid_13 : decode kY_TrustDesk_paid.2.1 13 = .ok (.goto 7, 3) := by decide +kernel
theorem d_TrustDesk_paid_20 : decode kY_TrustDesk_paid.2.1 20 = .ok (.lreturn, 1) := by decide +kernel
theorem d_TrustDesk_paid_16 : decode kY_TrustDesk_paid.2.1 16 = .ok (.aload_n 2, 1) := by decide +kernel
theorem d_TrustDesk_paid_17 : decode kY_TrustDesk_paid.2.1 17 = .ok (.getfield 251, 3) := by decide +kernel
def w_TrustDesk_paid : List Nat := []
theorem tc_TrustDesk_paid {g : mj_G} {l : Launch} {d : Nat} {T0 : tm_H} {M0 : mj_M} {n0 x9 : Nat} {o0 : Nat} {x1 : Int32} (h_o0 : T0 o0 = some (0, 12, 0)) (I0 : tm_I tm_FT (tm_in w_TrustDesk_paid) x9 T0 M0 n0 T0 M0 n0) : mj_Met g l kY_TrustDesk_paid (d + 4) [.ref o0, .int x1] M0 n0 0 0 (tm_Q tm_FT (tm_in w_TrustDesk_paid) x9 T0 M0 n0 (fun r _ _ => ∃ v : Int64, r = some (.long v))) := by
  refine mj_enter (by decide) (Nat.le_of_ble_eq_true rfl) ?_
  refine mv_aload_n d_TrustDesk_paid_0 rfl rfl ?_
  refine mv_iload_n d_TrustDesk_paid_1 rfl rfl ?_
  obtain ⟨_, b7, -⟩ := I0.1 _ _ h_o0
  refine mv_callV (kc' := 0) (ks' := 0) (As := [.int x1]) (st9 := [.int x1, .ref o0]) d_TrustDesk_paid_2 lV_TrustDesk_257 b7 rfl (tc_TrustDesk_fundAt (d := d) (x9 := x9) (o0 := o0) (x1 := x1) h_o0 I0.start) rfl (Nat.le_of_ble_eq_true rfl) (Nat.le_of_ble_eq_true rfl) (Nat.le_of_ble_eq_true rfl) (hst := rfl) (fun b1r M2 n3 b1 => ?_)
  obtain ⟨T4, J5, b9⟩ := b1
  have I6 := I0.call J5 (tm_sub (by decide)) (Or.inl rfl)
  have t10 := J5.up h_o0
  rcases b9 with rfl | ⟨a8, rfl, t_a8⟩
  · refine mv_astore_nN (lv' := [(2, .null), (0, .ref o0), (1, .int x1)]) d_TrustDesk_paid_5 rfl (by decide) rfl ?_
    refine mv_aload_nN d_TrustDesk_paid_6 rfl rfl ?_
    refine mv_ifnonnullN d_TrustDesk_paid_7 ?_
    refine mv_ldc2 d_TrustDesk_paid_10 k_TrustDesk_463 ?_
    refine mv_goto (tgt := 20) d_TrustDesk_paid_13 (by decide) ?_
    exact mv_lret d_TrustDesk_paid_20 rfl ⟨_, I6, _, rfl⟩
  · refine mv_astore_n (lv' := [(2, .ref a8), (0, .ref o0), (1, .int x1)]) d_TrustDesk_paid_5 rfl (by decide) rfl ?_
    refine mv_aload_n d_TrustDesk_paid_6 rfl rfl ?_
    refine mv_ifnonnull (tgt := 16) d_TrustDesk_paid_7 (by decide) ?_
    refine mv_aload_n d_TrustDesk_paid_16 rfl rfl ?_
    obtain ⟨v12, q11⟩ := tm_atL I6 t_a8 (k := 10) rfl
    refine tr_getK q11 d_TrustDesk_paid_17 f_TrustDesk_251_6 ?_
    exact mv_lret d_TrustDesk_paid_20 rfl ⟨_, I6, _, rfl⟩
abbrev kY_TrustDesk_part : mj_Y := (⟨"TrustDesk", "part", "(II)I"⟩, prog_1_method_41_code, 4, (Option.some Jvm.ClassFile.FieldType.int))
theorem d_TrustDesk_part_0 : decode kY_TrustDesk_part.2.1 0 = .ok (.aload_n 0, 1) := by decide +kernel
theorem d_TrustDesk_part_1 : decode kY_TrustDesk_part.2.1 1 = .ok (.iload_n 1, 1) := by decide +kernel
theorem d_TrustDesk_part_2 : decode kY_TrustDesk_part.2.1 2 = .ok (.invokevirtual 257, 3) := by decide +kernel
theorem d_TrustDesk_part_5 : decode kY_TrustDesk_part.2.1 5 = .ok (.astore_n 3, 1) := by decide +kernel
theorem d_TrustDesk_part_6 : decode kY_TrustDesk_part.2.1 6 = .ok (.aload_n 3, 1) := by decide +kernel
theorem d_TrustDesk_part_7 : decode kY_TrustDesk_part.2.1 7 = .ok (.ifnull 11, 3) := by decide +kernel
theorem d_TrustDesk_part_18 : decode kY_TrustDesk_part.2.1 18 = .ok (.iconst (-1), 1) := by decide +kernel
theorem d_TrustDesk_part_19 : decode kY_TrustDesk_part.2.1 19 = .ok (.goto 8, 3) := by decide +kernel
theorem d_TrustDesk_part_27 : decode kY_TrustDesk_part.2.1 27 = .ok (.ireturn, 1) := by decide +kernel
theorem d_TrustDesk_part_10 : decode kY_TrustDesk_part.2.1 10 = .ok (.aload_n 0, 1) := by decide +kernel
theorem d_TrustDesk_part_11 : decode kY_TrustDesk_part.2.1 11 = .ok (.iload_n 2, 1) := by decide +kernel
theorem d_TrustDesk_part_12 : decode kY_TrustDesk_part.2.1 12 = .ok (.invokevirtual 257, 3) := by decide +kernel
theorem d_TrustDesk_part_15 : decode kY_TrustDesk_part.2.1 15 = .ok (.ifnonnull 7, 3) := by decide +kernel
theorem d_TrustDesk_part_22 : decode kY_TrustDesk_part.2.1 22 = .ok (.aload_n 3, 1) := by decide +kernel
theorem d_TrustDesk_part_23 : decode kY_TrustDesk_part.2.1 23 = .ok (.iload_n 2, 1) := by decide +kernel
theorem d_TrustDesk_part_24 : decode kY_TrustDesk_part.2.1 24 = .ok (.invokevirtual 246, 3) := by decide +kernel
def w_TrustDesk_part : List Nat := []
theorem tc_TrustDesk_part {g : mj_G} {l : Launch} {d : Nat} {T0 : tm_H} {M0 : mj_M} {n0 x9 : Nat} {o0 : Nat} {x1 : Int32} {x2 : Int32} (h_o0 : T0 o0 = some (0, 12, 0)) (I0 : tm_I tm_FT (tm_in w_TrustDesk_part) x9 T0 M0 n0 T0 M0 n0) : mj_Met g l kY_TrustDesk_part (d + 4) [.ref o0, .int x1, .int x2] M0 n0 0 0 (tm_Q tm_FT (tm_in w_TrustDesk_part) x9 T0 M0 n0 (fun r _ _ => ∃ v : Int32, r = some (.int v))) := by
  refine mj_enter (by decide) (Nat.le_of_ble_eq_true rfl) ?_
  refine mv_aload_n d_TrustDesk_part_0 rfl rfl ?_
  refine mv_iload_n d_TrustDesk_part_1 rfl rfl ?_
  obtain ⟨_, b7, -⟩ := I0.1 _ _ h_o0
  refine mv_callV (kc' := 0) (ks' := 0) (As := [.int x1]) (st9 := [.int x1, .ref o0]) d_TrustDesk_part_2 lV_TrustDesk_257 b7 rfl (tc_TrustDesk_fundAt (d := d) (x9 := x9) (o0 := o0) (x1 := x1) h_o0 I0.start) rfl (Nat.le_of_ble_eq_true rfl) (Nat.le_of_ble_eq_true rfl) (Nat.le_of_ble_eq_true rfl) (hst := rfl) (fun b1r M2 n3 b1 => ?_)
  obtain ⟨T4, J5, b9⟩ := b1
  have I6 := I0.call J5 (tm_sub (by decide)) (Or.inl rfl)
  have t10 := J5.up h_o0
  rcases b9 with rfl | ⟨a8, rfl, t_a8⟩
  · refine mv_astore_nN (lv' := [(3, .null), (0, .ref o0), (1, .int x1), (2, .int x2)]) d_TrustDesk_part_5 rfl (by decide) rfl ?_
    refine mv_aload_nN d_TrustDesk_part_6 rfl rfl ?_
    refine mv_ifnullN (tgt := 18) d_TrustDesk_part_7 (by decide) ?_
    refine mv_iconst (v := (-1)) d_TrustDesk_part_18 (by decide) ?_
    refine mv_goto (tgt := 27) d_TrustDesk_part_19 (by decide) ?_
    exact mv_iret d_TrustDesk_part_27 rfl (by first | rfl | decide) ⟨_, I6, _, rfl⟩
  · refine mv_astore_n (lv' := [(3, .ref a8), (0, .ref o0), (1, .int x1), (2, .int x2)]) d_TrustDesk_part_5 rfl (by decide) rfl ?_
    refine mv_aload_n d_TrustDesk_part_6 rfl rfl ?_
    refine mv_ifnull d_TrustDesk_part_7 ?_
    refine mv_aload_n d_TrustDesk_part_10 rfl rfl ?_
    refine mv_iload_n d_TrustDesk_part_11 rfl rfl ?_
    obtain ⟨_, b17, -⟩ := I6.1 _ _ t10
    refine mv_callV (kc' := 0) (ks' := 0) (As := [.int x2]) (st9 := [.int x2, .ref o0]) d_TrustDesk_part_12 lV_TrustDesk_257 b17 rfl (tc_TrustDesk_fundAt (d := d) (x9 := x9) (o0 := o0) (x1 := x2) t10 I6.start) rfl (Nat.le_of_ble_eq_true rfl) (Nat.le_of_ble_eq_true rfl) (Nat.le_of_ble_eq_true rfl) (hst := rfl) (fun b11r M12 n13 b11 => ?_)
    obtain ⟨T14, J15, b19⟩ := b11
    have I16 := I6.call J15 (tm_sub (by decide)) (Or.inl rfl)
    have t20 := J15.up t_a8
    have t21 := J15.up t10
    rcases b19 with rfl | ⟨a18, rfl, t_a18⟩
    · refine mv_ifnonnullN d_TrustDesk_part_15 ?_
      refine mv_iconst (v := (-1)) d_TrustDesk_part_18 (by decide) ?_
      refine mv_goto (tgt := 27) d_TrustDesk_part_19 (by decide) ?_
      exact mv_iret d_TrustDesk_part_27 rfl (by first | rfl | decide) ⟨_, I16, _, rfl⟩
    · refine mv_ifnonnull (tgt := 22) d_TrustDesk_part_15 (by decide) ?_
      refine mv_aload_n d_TrustDesk_part_22 rfl rfl ?_
      refine mv_iload_n d_TrustDesk_part_23 rfl rfl ?_
      obtain ⟨_, b28, -⟩ := I16.1 _ _ t20
      refine mv_callV (kc' := 0) (ks' := 0) (As := [.int x2]) (st9 := [.int x2, .ref a8]) d_TrustDesk_part_24 lV_TrustDesk_246 b28 rfl (tc_Fund_partOf (d := (d + 3)) (x9 := x9) (o0 := a8) (x1 := x2) t20 I16.start) rfl (Nat.le_of_ble_eq_true rfl) (Nat.le_of_ble_eq_true rfl) (Nat.le_of_ble_eq_true rfl) (hst := rfl) (fun b22r M23 n24 b22 => ?_)
      obtain ⟨T25, J26, v29, rfl⟩ := b22
      have I27 := I16.call J26 (tm_sub (by decide)) (Or.inl rfl)
      have t30 := J26.up t20
      have t31 := J26.up t21
      exact mv_iret d_TrustDesk_part_27 rfl (by first | rfl | decide) ⟨_, I27, _, rfl⟩
abbrev kY_TrustDesk_place : mj_Y := (⟨"TrustDesk", "place", "()I"⟩, prog_1_method_10_code, 1, (Option.some Jvm.ClassFile.FieldType.int))
theorem d_TrustDesk_place_0 : decode kY_TrustDesk_place.2.1 0 = .ok (.aload_n 0, 1) := by decide +kernel
theorem d_TrustDesk_place_1 : decode kY_TrustDesk_place.2.1 1 = .ok (.getfield 19, 3) := by decide +kernel
theorem d_TrustDesk_place_4 : decode kY_TrustDesk_place.2.1 4 = .ok (.getfield 144, 3) := by decide +kernel
theorem f_TrustDesk_144_9 : mj_fl "TrustDesk" 144 9 2 := ⟨kR_Reader, kF_Reader, 19, "TrustDesk$Reader", rfl, kg_9, by decide, (mj_in1 (List.mem_of_getElem? (i := 74) (by decide +kernel)) rfl), Or.inl rfl⟩
theorem d_TrustDesk_place_7 : decode kY_TrustDesk_place.2.1 7 = .ok (.ireturn, 1) := by decide +kernel
abbrev kY_TrustDesk_propose : mj_Y := (⟨"TrustDesk", "propose", "(III)I"⟩, prog_1_method_18_code, 5, (Option.some Jvm.ClassFile.FieldType.int))
theorem d_TrustDesk_propose_0 : decode kY_TrustDesk_propose.2.1 0 = .ok (.aload_n 0, 1) := by decide +kernel
theorem d_TrustDesk_propose_1 : decode kY_TrustDesk_propose.2.1 1 = .ok (.iload_n 2, 1) := by decide +kernel
theorem d_TrustDesk_propose_2 : decode kY_TrustDesk_propose.2.1 2 = .ok (.invokevirtual 257, 3) := by decide +kernel
theorem d_TrustDesk_propose_5 : decode kY_TrustDesk_propose.2.1 5 = .ok (.ifnull 24, 3) := by decide +kernel
theorem d_TrustDesk_propose_29 : decode kY_TrustDesk_propose.2.1 29 = .ok (.iconst (-1), 1) := by decide +kernel
theorem d_TrustDesk_propose_30 : decode kY_TrustDesk_propose.2.1 30 = .ok (.ireturn, 1) := by decide +kernel
theorem d_TrustDesk_propose_8 : decode kY_TrustDesk_propose.2.1 8 = .ok (.aload_n 0, 1) := by decide +kernel
theorem d_TrustDesk_propose_9 : decode kY_TrustDesk_propose.2.1 9 = .ok (.iload_n 1, 1) := by decide +kernel
theorem d_TrustDesk_propose_10 : decode kY_TrustDesk_propose.2.1 10 = .ok (.iload_n 3, 1) := by decide +kernel
theorem d_TrustDesk_propose_11 : decode kY_TrustDesk_propose.2.1 11 = .ok (.invokevirtual 267, 3) := by decide +kernel
theorem lV_TrustDesk_267 : mj_lV "TrustDesk" 267 kY_TrustDesk_isSubject 2 := ⟨⟨(mj_in1 (List.mem_of_getElem? (i := 953) (by decide +kernel)) rfl), (mj_in1 (List.mem_of_getElem? (i := 1) (by decide +kernel)) rfl), (mj_in1 (List.mem_of_getElem? (i := 956) (by decide +kernel)) rfl), by decide, rfl, by decide⟩, (mj_in1 (List.mem_of_getElem? (i := 955) (by decide +kernel)) rfl), (mj_in (List.mem_append_left _ (List.mem_of_getElem? (i := 50) (by decide +kernel))) rfl)⟩
theorem d_TrustDesk_propose_14 : decode kY_TrustDesk_propose.2.1 14 = .ok (.ifCond .eq 15, 3) := by decide +kernel
theorem d_TrustDesk_propose_17 : decode kY_TrustDesk_propose.2.1 17 = .ok (.aload_n 0, 1) := by decide +kernel
theorem d_TrustDesk_propose_18 : decode kY_TrustDesk_propose.2.1 18 = .ok (.getfield 59, 3) := by decide +kernel
theorem d_TrustDesk_propose_21 : decode kY_TrustDesk_propose.2.1 21 = .ok (.invokevirtual 97, 3) := by decide +kernel
theorem d_TrustDesk_propose_24 : decode kY_TrustDesk_propose.2.1 24 = .ok (.bipush 40, 2) := by decide +kernel
theorem d_TrustDesk_propose_26 : decode kY_TrustDesk_propose.2.1 26 = .ok (.if_icmp .lt 5, 3) := by decide +kernel
theorem d_TrustDesk_propose_31 : decode kY_TrustDesk_propose.2.1 31 = .ok (.aload_n 0, 1) := by decide +kernel
theorem d_TrustDesk_propose_32 : decode kY_TrustDesk_propose.2.1 32 = .ok (.getfield 73, 3) := by decide +kernel
theorem d_TrustDesk_propose_35 : decode kY_TrustDesk_propose.2.1 35 = .ok (.aload_n 0, 1) := by decide +kernel
theorem d_TrustDesk_propose_36 : decode kY_TrustDesk_propose.2.1 36 = .ok (.aload_n 0, 1) := by decide +kernel
theorem d_TrustDesk_propose_37 : decode kY_TrustDesk_propose.2.1 37 = .ok (.getfield 73, 3) := by decide +kernel
theorem d_TrustDesk_propose_40 : decode kY_TrustDesk_propose.2.1 40 = .ok (.invokevirtual 114, 3) := by decide +kernel
theorem d_TrustDesk_propose_43 : decode kY_TrustDesk_propose.2.1 43 = .ok (.iconst 2, 1) := by decide +kernel
theorem d_TrustDesk_propose_44 : decode kY_TrustDesk_propose.2.1 44 = .ok (.invokevirtual 118, 3) := by decide +kernel
theorem d_TrustDesk_propose_47 : decode kY_TrustDesk_propose.2.1 47 = .ok (.iadd, 1) := by decide +kernel
theorem d_TrustDesk_propose_48 : decode kY_TrustDesk_propose.2.1 48 = .ok (.istore 4, 2) := by decide +kernel
theorem d_TrustDesk_propose_50 : decode kY_TrustDesk_propose.2.1 50 = .ok (.aload_n 0, 1) := by decide +kernel
theorem d_TrustDesk_propose_51 : decode kY_TrustDesk_propose.2.1 51 = .ok (.getfield 59, 3) := by decide +kernel
theorem d_TrustDesk_propose_54 : decode kY_TrustDesk_propose.2.1 54 = .ok (.new 271, 3) := by decide +kernel
theorem n_TrustDesk_271 : mj_nw "TrustDesk" 271 11 [.int 0, .int 0, .int 0, .int 0, .int 0, .int 0, .int 0, .int 0, .int 0, .int 0, .null, .null] := ⟨kR_Scheme, kF_Scheme, 12, kt_Scheme, rfl, kg_11, kto_Scheme, (mj_in1 (List.mem_of_getElem? (i := 961) (by decide +kernel)) rfl), (mj_in1 (List.mem_of_getElem? (i := 962) (by decide +kernel)) rfl), (mj_in1 (List.mem_of_getElem? (i := 25) (by decide +kernel)) rfl), by decide +kernel, rfl, fun _ => rfl⟩
theorem d_TrustDesk_propose_57 : decode kY_TrustDesk_propose.2.1 57 = .ok (.dup, 1) := by decide +kernel
theorem d_TrustDesk_propose_58 : decode kY_TrustDesk_propose.2.1 58 = .ok (.iload_n 1, 1) := by decide +kernel
theorem d_TrustDesk_propose_59 : decode kY_TrustDesk_propose.2.1 59 = .ok (.iload_n 2, 1) := by decide +kernel
theorem d_TrustDesk_propose_60 : decode kY_TrustDesk_propose.2.1 60 = .ok (.iload_n 3, 1) := by decide +kernel
theorem d_TrustDesk_propose_61 : decode kY_TrustDesk_propose.2.1 61 = .ok (.aload_n 0, 1) := by decide +kernel
theorem d_TrustDesk_propose_62 : decode kY_TrustDesk_propose.2.1 62 = .ok (.getfield 73, 3) := by decide +kernel
theorem d_TrustDesk_propose_65 : decode kY_TrustDesk_propose.2.1 65 = .ok (.iload 4, 2) := by decide +kernel
theorem d_TrustDesk_propose_67 : decode kY_TrustDesk_propose.2.1 67 = .ok (.invokespecial 273, 3) := by decide +kernel
abbrev kY_Scheme_init : mj_Y := (⟨"TrustDesk$Scheme", "<init>", "(IIIII)V"⟩, prog_12_method_1_code, 6, (Option.none : Option Jvm.ClassFile.FieldType))
theorem d_Scheme_init_0 : decode kY_Scheme_init.2.1 0 = .ok (.aload_n 0, 1) := by decide +kernel
theorem d_Scheme_init_1 : decode kY_Scheme_init.2.1 1 = .ok (.invokespecial 3, 3) := by decide +kernel
theorem d_Scheme_init_4 : decode kY_Scheme_init.2.1 4 = .ok (.aload_n 0, 1) := by decide +kernel
theorem d_Scheme_init_5 : decode kY_Scheme_init.2.1 5 = .ok (.iconst 0, 1) := by decide +kernel
theorem d_Scheme_init_6 : decode kY_Scheme_init.2.1 6 = .ok (.putfield 9, 3) := by decide +kernel
theorem p_Scheme_9_11 : mj_fp "TrustDesk$Scheme" 9 11 5 (kt_Scheme 5) false := ⟨kR_Scheme, kF_Scheme, 12, "TrustDesk$Scheme", kt_Scheme, rfl, kg_11, by decide, (mj_in1 (List.mem_of_getElem? (i := 977) (by decide +kernel)) rfl), Or.inl rfl, kto_Scheme, kn_Scheme, rfl, rfl, fun h => by cases h⟩
theorem d_Scheme_init_9 : decode kY_Scheme_init.2.1 9 = .ok (.aload_n 0, 1) := by decide +kernel
theorem d_Scheme_init_10 : decode kY_Scheme_init.2.1 10 = .ok (.bipush 100, 2) := by decide +kernel
theorem d_Scheme_init_12 : decode kY_Scheme_init.2.1 12 = .ok (.newarray .boolean, 2) := by decide +kernel
theorem d_Scheme_init_14 : decode kY_Scheme_init.2.1 14 = .ok (.putfield 15, 3) := by decide +kernel
theorem p_Scheme_15_11 : mj_fp "TrustDesk$Scheme" 15 11 10 (kt_Scheme 10) true := ⟨kR_Scheme, kF_Scheme, 12, "TrustDesk$Scheme", kt_Scheme, rfl, kg_11, by decide, (mj_in1 (List.mem_of_getElem? (i := 986) (by decide +kernel)) rfl), Or.inl rfl, kto_Scheme, kn_Scheme, rfl, rfl, fun _ => rfl⟩
theorem d_Scheme_init_17 : decode kY_Scheme_init.2.1 17 = .ok (.aload_n 0, 1) := by decide +kernel
theorem d_Scheme_init_18 : decode kY_Scheme_init.2.1 18 = .ok (.bipush 100, 2) := by decide +kernel
theorem d_Scheme_init_20 : decode kY_Scheme_init.2.1 20 = .ok (.newarray .byte, 2) := by decide +kernel
theorem d_Scheme_init_22 : decode kY_Scheme_init.2.1 22 = .ok (.putfield 19, 3) := by decide +kernel
theorem p_Scheme_19_11 : mj_fp "TrustDesk$Scheme" 19 11 11 (kt_Scheme 11) true := ⟨kR_Scheme, kF_Scheme, 12, "TrustDesk$Scheme", kt_Scheme, rfl, kg_11, by decide, (mj_in1 (List.mem_of_getElem? (i := 987) (by decide +kernel)) rfl), Or.inl rfl, kto_Scheme, kn_Scheme, rfl, rfl, fun _ => rfl⟩
theorem d_Scheme_init_25 : decode kY_Scheme_init.2.1 25 = .ok (.aload_n 0, 1) := by decide +kernel
theorem d_Scheme_init_26 : decode kY_Scheme_init.2.1 26 = .ok (.iload_n 1, 1) := by decide +kernel
theorem d_Scheme_init_27 : decode kY_Scheme_init.2.1 27 = .ok (.putfield 23, 3) := by decide +kernel
theorem p_Scheme_23_11 : mj_fp "TrustDesk$Scheme" 23 11 0 (kt_Scheme 0) true := ⟨kR_Scheme, kF_Scheme, 12, "TrustDesk$Scheme", kt_Scheme, rfl, kg_11, by decide, (mj_in1 (List.mem_of_getElem? (i := 967) (by decide +kernel)) rfl), Or.inl rfl, kto_Scheme, kn_Scheme, rfl, rfl, fun _ => rfl⟩
theorem d_Scheme_init_30 : decode kY_Scheme_init.2.1 30 = .ok (.aload_n 0, 1) := by decide +kernel
theorem d_Scheme_init_31 : decode kY_Scheme_init.2.1 31 = .ok (.iload_n 2, 1) := by decide +kernel
theorem d_Scheme_init_32 : decode kY_Scheme_init.2.1 32 = .ok (.putfield 26, 3) := by decide +kernel
theorem p_Scheme_26_11 : mj_fp "TrustDesk$Scheme" 26 11 1 (kt_Scheme 1) true := ⟨kR_Scheme, kF_Scheme, 12, "TrustDesk$Scheme", kt_Scheme, rfl, kg_11, by decide, (mj_in1 (List.mem_of_getElem? (i := 969) (by decide +kernel)) rfl), Or.inl rfl, kto_Scheme, kn_Scheme, rfl, rfl, fun _ => rfl⟩
theorem d_Scheme_init_35 : decode kY_Scheme_init.2.1 35 = .ok (.aload_n 0, 1) := by decide +kernel
theorem d_Scheme_init_36 : decode kY_Scheme_init.2.1 36 = .ok (.iload_n 3, 1) := by decide +kernel
theorem d_Scheme_init_37 : decode kY_Scheme_init.2.1 37 = .ok (.putfield 29, 3) := by decide +kernel
theorem p_Scheme_29_11 : mj_fp "TrustDesk$Scheme" 29 11 2 (kt_Scheme 2) true := ⟨kR_Scheme, kF_Scheme, 12, "TrustDesk$Scheme", kt_Scheme, rfl, kg_11, by decide, (mj_in1 (List.mem_of_getElem? (i := 971) (by decide +kernel)) rfl), Or.inl rfl, kto_Scheme, kn_Scheme, rfl, rfl, fun _ => rfl⟩
theorem d_Scheme_init_40 : decode kY_Scheme_init.2.1 40 = .ok (.aload_n 0, 1) := by decide +kernel
theorem d_Scheme_init_41 : decode kY_Scheme_init.2.1 41 = .ok (.iload 4, 2) := by decide +kernel
theorem d_Scheme_init_43 : decode kY_Scheme_init.2.1 43 = .ok (.putfield 32, 3) := by decide +kernel
theorem p_Scheme_32_11 : mj_fp "TrustDesk$Scheme" 32 11 3 (kt_Scheme 3) true := ⟨kR_Scheme, kF_Scheme, 12, "TrustDesk$Scheme", kt_Scheme, rfl, kg_11, by decide, (mj_in1 (List.mem_of_getElem? (i := 973) (by decide +kernel)) rfl), Or.inl rfl, kto_Scheme, kn_Scheme, rfl, rfl, fun _ => rfl⟩
theorem d_Scheme_init_46 : decode kY_Scheme_init.2.1 46 = .ok (.aload_n 0, 1) := by decide +kernel
theorem d_Scheme_init_47 : decode kY_Scheme_init.2.1 47 = .ok (.iload 5, 2) := by decide +kernel
theorem d_Scheme_init_49 : decode kY_Scheme_init.2.1 49 = .ok (.putfield 35, 3) := by decide +kernel
theorem p_Scheme_35_11 : mj_fp "TrustDesk$Scheme" 35 11 4 (kt_Scheme 4) true := ⟨kR_Scheme, kF_Scheme, 12, "TrustDesk$Scheme", kt_Scheme, rfl, kg_11, by decide, (mj_in1 (List.mem_of_getElem? (i := 975) (by decide +kernel)) rfl), Or.inl rfl, kto_Scheme, kn_Scheme, rfl, rfl, fun _ => rfl⟩
theorem d_Scheme_init_52 : decode kY_Scheme_init.2.1 52 = .ok (.return_, 1) := by decide +kernel
def w_Scheme_init : List Nat := []
theorem tc_Scheme_init {g : mj_G} {l : Launch} {d : Nat} {T0 : tm_H} {M0 : mj_M} {n0 : Nat} {o0 : Nat} {x1 : Int32} {x2 : Int32} {x3 : Int32} {x4 : Int32} {x5 : Int32} (h_o0 : T0 o0 = some (5, 11, 0)) (m_o0 : M0 o0 = some (.inr (11, [.int 0, .int 0, .int 0, .int 0, .int 0, .int 0, .int 0, .int 0, .int 0, .int 0, .null, .null]))) (I0 : tm_I tm_FT (tm_in w_Scheme_init) o0 T0 M0 n0 T0 M0 n0) : mj_Met g l kY_Scheme_init (d + 1) [.ref o0, .int x1, .int x2, .int x3, .int x4, .int x5] M0 n0 2 200 (tm_Q tm_FT (tm_in w_Scheme_init) o0 T0 M0 n0 (fun r T M => r = none ∧ ∃ c0 c1 : Nat, M o0 = some (.inr (11, [.int x1, .int x2, .int x3, .int x4, .int x5, .int 0, .int 0, .int 0, .int 0, .int 0, .ref c0, .ref c1])) ∧ T c0 = some (1, 9282, 100) ∧ T c1 = some (1, 9291, 100))) := by
  refine mj_enter (by decide) (Nat.le_of_ble_eq_true rfl) ?_
  refine mv_aload_n d_Scheme_init_0 rfl rfl ?_
  refine mv_oinit d_Scheme_init_1 (mj_in1 (List.mem_of_getElem? (i := 966) (by decide +kernel)) rfl) (Nat.le_of_ble_eq_true rfl) ?_
  refine mv_aload_n d_Scheme_init_4 rfl rfl ?_
  refine mv_iconst (v := 0) d_Scheme_init_5 (by decide) ?_
  refine tr_putX (k := 5) (fs' := [.int 0, .int 0, .int 0, .int 0, .int 0, .int 0, .int 0, .int 0, .int 0, .int 0, .null, .null]) tm_okF I0 h_o0 (Or.inl rfl) m_o0 d_Scheme_init_6 p_Scheme_9_11 (Nat.le_of_ble_eq_true rfl) rfl rfl rfl (fun M1 I2 m3 K4 => ?_)
  refine mv_aload_n d_Scheme_init_9 rfl rfl ?_
  refine mv_bipush (v := 100) d_Scheme_init_10 (by decide) ?_
  refine tr_newz (E := 9282) (N := 100) (kc' := 1) (ks' := 100) tm_okF I2 (by decide) d_Scheme_init_12 (by decide) (by decide) (by decide) (Nat.le_of_ble_eq_true rfl) (Nat.le_of_ble_eq_true rfl) (fun T5 M6 I7 t_x8 u9 K10 => ?_)
  have m11 := (K10 _ _ h_o0).trans m3
  have t12 := u9 _ _ h_o0
  refine tr_putXF (k := 10) (fs' := [.int 0, .int 0, .int 0, .int 0, .int 0, .int 0, .int 0, .int 0, .int 0, .int 0, .ref n0, .null]) tm_okF I7 t12 (Or.inl rfl) m11 d_Scheme_init_14 p_Scheme_15_11 rfl (Nat.le_of_ble_eq_true rfl) rfl rfl rfl (fun M13 I14 m15 K16 => ?_)
  refine mv_aload_n d_Scheme_init_17 rfl rfl ?_
  refine mv_bipush (v := 100) d_Scheme_init_18 (by decide) ?_
  refine tr_newb (E := 9291) (N := 100) (kc' := 0) (ks' := 0) tm_okF I14 (by decide) d_Scheme_init_20 (by decide) (by decide) (by decide) (Nat.le_of_ble_eq_true rfl) (Nat.le_of_ble_eq_true rfl) (fun T17 M18 I19 t_x20 u21 K22 => ?_)
  have m23 := (K22 _ _ t12).trans m15
  have t24 := u21 _ _ t12
  have t25 := u21 _ _ t_x8
  refine tr_putXF (k := 11) (fs' := [.int 0, .int 0, .int 0, .int 0, .int 0, .int 0, .int 0, .int 0, .int 0, .int 0, .ref n0, .ref (n0 + 1)]) tm_okF I19 t24 (Or.inl rfl) m23 d_Scheme_init_22 p_Scheme_19_11 rfl (Nat.le_of_ble_eq_true rfl) rfl rfl rfl (fun M26 I27 m28 K29 => ?_)
  refine mv_aload_n d_Scheme_init_25 rfl rfl ?_
  refine mv_iload_n d_Scheme_init_26 rfl rfl ?_
  refine tr_putXF (k := 0) (fs' := [.int x1, .int 0, .int 0, .int 0, .int 0, .int 0, .int 0, .int 0, .int 0, .int 0, .ref n0, .ref (n0 + 1)]) tm_okF I27 t24 (Or.inl rfl) m28 d_Scheme_init_27 p_Scheme_23_11 rfl (Nat.le_of_ble_eq_true rfl) rfl rfl rfl (fun M30 I31 m32 K33 => ?_)
  refine mv_aload_n d_Scheme_init_30 rfl rfl ?_
  refine mv_iload_n d_Scheme_init_31 rfl rfl ?_
  refine tr_putXF (k := 1) (fs' := [.int x1, .int x2, .int 0, .int 0, .int 0, .int 0, .int 0, .int 0, .int 0, .int 0, .ref n0, .ref (n0 + 1)]) tm_okF I31 t24 (Or.inl rfl) m32 d_Scheme_init_32 p_Scheme_26_11 rfl (Nat.le_of_ble_eq_true rfl) rfl rfl rfl (fun M34 I35 m36 K37 => ?_)
  refine mv_aload_n d_Scheme_init_35 rfl rfl ?_
  refine mv_iload_n d_Scheme_init_36 rfl rfl ?_
  refine tr_putXF (k := 2) (fs' := [.int x1, .int x2, .int x3, .int 0, .int 0, .int 0, .int 0, .int 0, .int 0, .int 0, .ref n0, .ref (n0 + 1)]) tm_okF I35 t24 (Or.inl rfl) m36 d_Scheme_init_37 p_Scheme_29_11 rfl (Nat.le_of_ble_eq_true rfl) rfl rfl rfl (fun M38 I39 m40 K41 => ?_)
  refine mv_aload_n d_Scheme_init_40 rfl rfl ?_
  refine mv_iload d_Scheme_init_41 rfl ?_
  refine tr_putXF (k := 3) (fs' := [.int x1, .int x2, .int x3, .int x4, .int 0, .int 0, .int 0, .int 0, .int 0, .int 0, .ref n0, .ref (n0 + 1)]) tm_okF I39 t24 (Or.inl rfl) m40 d_Scheme_init_43 p_Scheme_32_11 rfl (Nat.le_of_ble_eq_true rfl) rfl rfl rfl (fun M42 I43 m44 K45 => ?_)
  refine mv_aload_n d_Scheme_init_46 rfl rfl ?_
  refine mv_iload d_Scheme_init_47 rfl ?_
  refine tr_putXF (k := 4) (fs' := [.int x1, .int x2, .int x3, .int x4, .int x5, .int 0, .int 0, .int 0, .int 0, .int 0, .ref n0, .ref (n0 + 1)]) tm_okF I43 t24 (Or.inl rfl) m44 d_Scheme_init_49 p_Scheme_35_11 rfl (Nat.le_of_ble_eq_true rfl) rfl rfl rfl (fun M46 I47 m48 K49 => ?_)
  exact mv_vret d_Scheme_init_52 rfl ⟨_, I47, rfl, _, _, m48, t25, t_x20⟩
theorem lI_TrustDesk_273 : mj_lI "TrustDesk" 273 kY_Scheme_init 5 := ⟨⟨(mj_in1 (List.mem_of_getElem? (i := 963) (by decide +kernel)) rfl), (mj_in1 (List.mem_of_getElem? (i := 25) (by decide +kernel)) rfl), (mj_in1 (List.mem_of_getElem? (i := 965) (by decide +kernel)) rfl), by decide, rfl, by decide⟩, rfl, (mj_in1 (List.mem_of_getElem? (i := 964) (by decide +kernel)) rfl), rfl⟩
theorem d_TrustDesk_propose_70 : decode kY_TrustDesk_propose.2.1 70 = .ok (.invokevirtual 107, 3) := by decide +kernel
theorem d_TrustDesk_propose_73 : decode kY_TrustDesk_propose.2.1 73 = .ok (.pop, 1) := by decide +kernel
theorem d_TrustDesk_propose_74 : decode kY_TrustDesk_propose.2.1 74 = .ok (.aload_n 0, 1) := by decide +kernel
theorem d_TrustDesk_propose_75 : decode kY_TrustDesk_propose.2.1 75 = .ok (.getfield 59, 3) := by decide +kernel
theorem d_TrustDesk_propose_78 : decode kY_TrustDesk_propose.2.1 78 = .ok (.invokevirtual 97, 3) := by decide +kernel
theorem d_TrustDesk_propose_81 : decode kY_TrustDesk_propose.2.1 81 = .ok (.iconst 1, 1) := by decide +kernel
theorem d_TrustDesk_propose_82 : decode kY_TrustDesk_propose.2.1 82 = .ok (.isub, 1) := by decide +kernel
theorem d_TrustDesk_propose_83 : decode kY_TrustDesk_propose.2.1 83 = .ok (.ireturn, 1) := by decide +kernel
abbrev kY_TrustDesk_scheme : mj_Y := (⟨"TrustDesk", "scheme", "(II)I"⟩, prog_1_method_37_code, 4, (Option.some Jvm.ClassFile.FieldType.int))
theorem d_TrustDesk_scheme_0 : decode kY_TrustDesk_scheme.2.1 0 = .ok (.aload_n 0, 1) := by decide +kernel
theorem d_TrustDesk_scheme_1 : decode kY_TrustDesk_scheme.2.1 1 = .ok (.iload_n 1, 1) := by decide +kernel
theorem d_TrustDesk_scheme_2 : decode kY_TrustDesk_scheme.2.1 2 = .ok (.invokevirtual 280, 3) := by decide +kernel
theorem d_TrustDesk_scheme_5 : decode kY_TrustDesk_scheme.2.1 5 = .ok (.astore_n 3, 1) := by decide +kernel
theorem d_TrustDesk_scheme_6 : decode kY_TrustDesk_scheme.2.1 6 = .ok (.aload_n 3, 1) := by decide +kernel
theorem d_TrustDesk_scheme_7 : decode kY_TrustDesk_scheme.2.1 7 = .ok (.ifnonnull 5, 3) := by decide +kernel
theorem d_TrustDesk_scheme_10 : decode kY_TrustDesk_scheme.2.1 10 = .ok (.iconst (-1), 1) := by decide +kernel
theorem d_TrustDesk_scheme_11 : decode kY_TrustDesk_scheme.2.1 11 = .ok (.ireturn, 1) := by decide +kernel
theorem d_TrustDesk_scheme_12 : decode kY_TrustDesk_scheme.2.1 12 = .ok (.iload_n 2, 1) := by decide +kernel
theorem d_TrustDesk_scheme_13 : decode kY_TrustDesk_scheme.2.1 13 = .ok (.tableswitch 105 0 9 #[55, 60, 65, 70, 75, 80, 85, 90, 95, 100], 55) := by decide +kernel
theorem d_TrustDesk_scheme_118 : decode kY_TrustDesk_scheme.2.1 118 = .ok (.iconst (-1), 1) := by decide +kernel
theorem d_TrustDesk_scheme_119 : decode kY_TrustDesk_scheme.2.1 119 = .ok (.ireturn, 1) := by decide +kernel
theorem d_TrustDesk_scheme_68 : decode kY_TrustDesk_scheme.2.1 68 = .ok (.aload_n 3, 1) := by decide +kernel
theorem d_TrustDesk_scheme_69 : decode kY_TrustDesk_scheme.2.1 69 = .ok (.getfield 308, 3) := by decide +kernel
theorem d_TrustDesk_scheme_72 : decode kY_TrustDesk_scheme.2.1 72 = .ok (.ireturn, 1) := by decide +kernel
theorem d_TrustDesk_scheme_73 : decode kY_TrustDesk_scheme.2.1 73 = .ok (.aload_n 3, 1) := by decide +kernel
theorem d_TrustDesk_scheme_74 : decode kY_TrustDesk_scheme.2.1 74 = .ok (.getfield 302, 3) := by decide +kernel
theorem d_TrustDesk_scheme_77 : decode kY_TrustDesk_scheme.2.1 77 = .ok (.ireturn, 1) := by decide +kernel
theorem d_TrustDesk_scheme_78 : decode kY_TrustDesk_scheme.2.1 78 = .ok (.aload_n 3, 1) := by decide +kernel
theorem d_TrustDesk_scheme_79 : decode kY_TrustDesk_scheme.2.1 79 = .ok (.getfield 311, 3) := by decide +kernel
theorem d_TrustDesk_scheme_82 : decode kY_TrustDesk_scheme.2.1 82 = .ok (.ireturn, 1) := by decide +kernel
theorem d_TrustDesk_scheme_83 : decode kY_TrustDesk_scheme.2.1 83 = .ok (.aload_n 3, 1) := by decide +kernel
theorem d_TrustDesk_scheme_84 : decode kY_TrustDesk_scheme.2.1 84 = .ok (.getfield 433, 3) := by decide +kernel
theorem f_TrustDesk_433_11 : mj_fl "TrustDesk" 433 11 3 := ⟨kR_Scheme, kF_Scheme, 12, "TrustDesk$Scheme", rfl, kg_11, by decide, (mj_in1 (List.mem_of_getElem? (i := 974) (by decide +kernel)) rfl), Or.inl rfl⟩
theorem d_TrustDesk_scheme_87 : decode kY_TrustDesk_scheme.2.1 87 = .ok (.ireturn, 1) := by decide +kernel
theorem d_TrustDesk_scheme_88 : decode kY_TrustDesk_scheme.2.1 88 = .ok (.aload_n 3, 1) := by decide +kernel
theorem d_TrustDesk_scheme_89 : decode kY_TrustDesk_scheme.2.1 89 = .ok (.getfield 285, 3) := by decide +kernel
theorem d_TrustDesk_scheme_92 : decode kY_TrustDesk_scheme.2.1 92 = .ok (.ireturn, 1) := by decide +kernel
theorem d_TrustDesk_scheme_93 : decode kY_TrustDesk_scheme.2.1 93 = .ok (.aload_n 3, 1) := by decide +kernel
theorem d_TrustDesk_scheme_94 : decode kY_TrustDesk_scheme.2.1 94 = .ok (.getfield 284, 3) := by decide +kernel
theorem d_TrustDesk_scheme_97 : decode kY_TrustDesk_scheme.2.1 97 = .ok (.ireturn, 1) := by decide +kernel
theorem d_TrustDesk_scheme_98 : decode kY_TrustDesk_scheme.2.1 98 = .ok (.aload_n 3, 1) := by decide +kernel
theorem d_TrustDesk_scheme_99 : decode kY_TrustDesk_scheme.2.1 99 = .ok (.getfield 318, 3) := by decide +kernel
theorem f_TrustDesk_318_11 : mj_fl "TrustDesk" 318 11 6 := ⟨kR_Scheme, kF_Scheme, 12, "TrustDesk$Scheme", rfl, kg_11, by decide, (mj_in1 (List.mem_of_getElem? (i := 979) (by decide +kernel)) rfl), Or.inl rfl⟩
theorem d_TrustDesk_scheme_102 : decode kY_TrustDesk_scheme.2.1 102 = .ok (.ireturn, 1) := by decide +kernel
theorem d_TrustDesk_scheme_103 : decode kY_TrustDesk_scheme.2.1 103 = .ok (.aload_n 3, 1) := by decide +kernel
theorem d_TrustDesk_scheme_104 : decode kY_TrustDesk_scheme.2.1 104 = .ok (.getfield 345, 3) := by decide +kernel
theorem d_TrustDesk_scheme_107 : decode kY_TrustDesk_scheme.2.1 107 = .ok (.ireturn, 1) := by decide +kernel
theorem d_TrustDesk_scheme_108 : decode kY_TrustDesk_scheme.2.1 108 = .ok (.aload_n 3, 1) := by decide +kernel
theorem d_TrustDesk_scheme_109 : decode kY_TrustDesk_scheme.2.1 109 = .ok (.getfield 436, 3) := by decide +kernel
theorem f_TrustDesk_436_11 : mj_fl "TrustDesk" 436 11 8 := ⟨kR_Scheme, kF_Scheme, 12, "TrustDesk$Scheme", rfl, kg_11, by decide, (mj_in1 (List.mem_of_getElem? (i := 983) (by decide +kernel)) rfl), Or.inl rfl⟩
theorem d_TrustDesk_scheme_112 : decode kY_TrustDesk_scheme.2.1 112 = .ok (.ireturn, 1) := by decide +kernel
theorem d_TrustDesk_scheme_113 : decode kY_TrustDesk_scheme.2.1 113 = .ok (.aload_n 3, 1) := by decide +kernel
theorem d_TrustDesk_scheme_114 : decode kY_TrustDesk_scheme.2.1 114 = .ok (.getfield 439, 3) := by decide +kernel
theorem f_TrustDesk_439_11 : mj_fl "TrustDesk" 439 11 9 := ⟨kR_Scheme, kF_Scheme, 12, "TrustDesk$Scheme", rfl, kg_11, by decide, (mj_in1 (List.mem_of_getElem? (i := 985) (by decide +kernel)) rfl), Or.inl rfl⟩
theorem d_TrustDesk_scheme_117 : decode kY_TrustDesk_scheme.2.1 117 = .ok (.ireturn, 1) := by decide +kernel
def w_TrustDesk_scheme : List Nat := []
theorem tc_TrustDesk_scheme {g : mj_G} {l : Launch} {d : Nat} {T0 : tm_H} {M0 : mj_M} {n0 x9 : Nat} {o0 : Nat} {x1 : Int32} {x2 : Int32} (h_o0 : T0 o0 = some (0, 12, 0)) (I0 : tm_I tm_FT (tm_in w_TrustDesk_scheme) x9 T0 M0 n0 T0 M0 n0) : mj_Met g l kY_TrustDesk_scheme (d + 4) [.ref o0, .int x1, .int x2] M0 n0 0 0 (tm_Q tm_FT (tm_in w_TrustDesk_scheme) x9 T0 M0 n0 (fun r _ _ => ∃ v : Int32, r = some (.int v))) := by
  refine mj_enter (by decide) (Nat.le_of_ble_eq_true rfl) ?_
  refine mv_aload_n d_TrustDesk_scheme_0 rfl rfl ?_
  refine mv_iload_n d_TrustDesk_scheme_1 rfl rfl ?_
  obtain ⟨_, b7, -⟩ := I0.1 _ _ h_o0
  refine mv_callV (kc' := 0) (ks' := 0) (As := [.int x1]) (st9 := [.int x1, .ref o0]) d_TrustDesk_scheme_2 lV_TrustDesk_280 b7 rfl (tc_TrustDesk_schemeAt (d := d) (x9 := x9) (o0 := o0) (x1 := x1) h_o0 I0.start) rfl (Nat.le_of_ble_eq_true rfl) (Nat.le_of_ble_eq_true rfl) (Nat.le_of_ble_eq_true rfl) (hst := rfl) (fun b1r M2 n3 b1 => ?_)
  obtain ⟨T4, J5, b9⟩ := b1
  have I6 := I0.call J5 (tm_sub (by decide)) (Or.inl rfl)
  have t10 := J5.up h_o0
  rcases b9 with rfl | ⟨a8, rfl, t_a8⟩
  · refine mv_astore_nN (lv' := [(3, .null), (0, .ref o0), (1, .int x1), (2, .int x2)]) d_TrustDesk_scheme_5 rfl (by decide) rfl ?_
    refine mv_aload_nN d_TrustDesk_scheme_6 rfl rfl ?_
    refine mv_ifnonnullN d_TrustDesk_scheme_7 ?_
    refine mv_iconst (v := (-1)) d_TrustDesk_scheme_10 (by decide) ?_
    exact mv_iret d_TrustDesk_scheme_11 rfl (by first | rfl | decide) ⟨_, I6, _, rfl⟩
  · refine mv_astore_n (lv' := [(3, .ref a8), (0, .ref o0), (1, .int x1), (2, .int x2)]) d_TrustDesk_scheme_5 rfl (by decide) rfl ?_
    refine mv_aload_n d_TrustDesk_scheme_6 rfl rfl ?_
    refine mv_ifnonnull (tgt := 12) d_TrustDesk_scheme_7 (by decide) ?_
    refine mv_iload_n d_TrustDesk_scheme_12 rfl rfl ?_
    rcases (show (x2.toInt < 0 ∨ 9 < x2.toInt) ∨ x2.toInt = 0 ∨ x2.toInt = 1 ∨ x2.toInt = 2 ∨ x2.toInt = 3 ∨ x2.toInt = 4 ∨ x2.toInt = 5 ∨ x2.toInt = 6 ∨ x2.toInt = 7 ∨ x2.toInt = 8 ∨ x2.toInt = 9 by omega) with b11 | b11 | b11 | b11 | b11 | b11 | b11 | b11 | b11 | b11 | b11
    · refine mv_tableOut (tgt := 118) d_TrustDesk_scheme_13 b11 (by decide) ?_
      refine mv_iconst (v := (-1)) d_TrustDesk_scheme_118 (by decide) ?_
      exact mv_iret d_TrustDesk_scheme_119 rfl (by first | rfl | decide) ⟨_, I6, _, rfl⟩
    · refine mv_tableIn (tgt := 68) (off := 55) d_TrustDesk_scheme_13 (by omega) (by omega) (by rw [b11]; rfl) (by decide) ?_
      refine mv_aload_n d_TrustDesk_scheme_68 rfl rfl ?_
      obtain ⟨v13, q12⟩ := tm_atI I6 t_a8 (k := 0) rfl
      refine tr_getK q12 d_TrustDesk_scheme_69 f_TrustDesk_308_11 ?_
      exact mv_iret d_TrustDesk_scheme_72 rfl (by first | rfl | decide) ⟨_, I6, _, rfl⟩
    · refine mv_tableIn (tgt := 73) (off := 60) d_TrustDesk_scheme_13 (by omega) (by omega) (by rw [b11]; rfl) (by decide) ?_
      refine mv_aload_n d_TrustDesk_scheme_73 rfl rfl ?_
      obtain ⟨v15, q14⟩ := tm_atI I6 t_a8 (k := 1) rfl
      refine tr_getK q14 d_TrustDesk_scheme_74 f_TrustDesk_302_11 ?_
      exact mv_iret d_TrustDesk_scheme_77 rfl (by first | rfl | decide) ⟨_, I6, _, rfl⟩
    · refine mv_tableIn (tgt := 78) (off := 65) d_TrustDesk_scheme_13 (by omega) (by omega) (by rw [b11]; rfl) (by decide) ?_
      refine mv_aload_n d_TrustDesk_scheme_78 rfl rfl ?_
      obtain ⟨v17, q16⟩ := tm_atI I6 t_a8 (k := 2) rfl
      refine tr_getK q16 d_TrustDesk_scheme_79 f_TrustDesk_311_11 ?_
      exact mv_iret d_TrustDesk_scheme_82 rfl (by first | rfl | decide) ⟨_, I6, _, rfl⟩
    · refine mv_tableIn (tgt := 83) (off := 70) d_TrustDesk_scheme_13 (by omega) (by omega) (by rw [b11]; rfl) (by decide) ?_
      refine mv_aload_n d_TrustDesk_scheme_83 rfl rfl ?_
      obtain ⟨v19, q18⟩ := tm_atI I6 t_a8 (k := 3) rfl
      refine tr_getK q18 d_TrustDesk_scheme_84 f_TrustDesk_433_11 ?_
      exact mv_iret d_TrustDesk_scheme_87 rfl (by first | rfl | decide) ⟨_, I6, _, rfl⟩
    · refine mv_tableIn (tgt := 88) (off := 75) d_TrustDesk_scheme_13 (by omega) (by omega) (by rw [b11]; rfl) (by decide) ?_
      refine mv_aload_n d_TrustDesk_scheme_88 rfl rfl ?_
      obtain ⟨v21, q20⟩ := tm_atI I6 t_a8 (k := 4) rfl
      refine tr_getK q20 d_TrustDesk_scheme_89 f_TrustDesk_285_11 ?_
      exact mv_iret d_TrustDesk_scheme_92 rfl (by first | rfl | decide) ⟨_, I6, _, rfl⟩
    · refine mv_tableIn (tgt := 93) (off := 80) d_TrustDesk_scheme_13 (by omega) (by omega) (by rw [b11]; rfl) (by decide) ?_
      refine mv_aload_n d_TrustDesk_scheme_93 rfl rfl ?_
      obtain ⟨v23, q22⟩ := tm_atI I6 t_a8 (k := 5) rfl
      refine tr_getK q22 d_TrustDesk_scheme_94 f_TrustDesk_284_11 ?_
      exact mv_iret d_TrustDesk_scheme_97 rfl (by first | rfl | decide) ⟨_, I6, _, rfl⟩
    · refine mv_tableIn (tgt := 98) (off := 85) d_TrustDesk_scheme_13 (by omega) (by omega) (by rw [b11]; rfl) (by decide) ?_
      refine mv_aload_n d_TrustDesk_scheme_98 rfl rfl ?_
      obtain ⟨v25, q24⟩ := tm_atI I6 t_a8 (k := 6) rfl
      refine tr_getK q24 d_TrustDesk_scheme_99 f_TrustDesk_318_11 ?_
      exact mv_iret d_TrustDesk_scheme_102 rfl (by first | rfl | decide) ⟨_, I6, _, rfl⟩
    · refine mv_tableIn (tgt := 103) (off := 90) d_TrustDesk_scheme_13 (by omega) (by omega) (by rw [b11]; rfl) (by decide) ?_
      refine mv_aload_n d_TrustDesk_scheme_103 rfl rfl ?_
      obtain ⟨v27, q26⟩ := tm_atI I6 t_a8 (k := 7) rfl
      refine tr_getK q26 d_TrustDesk_scheme_104 f_TrustDesk_345_11 ?_
      exact mv_iret d_TrustDesk_scheme_107 rfl (by first | rfl | decide) ⟨_, I6, _, rfl⟩
    · refine mv_tableIn (tgt := 108) (off := 95) d_TrustDesk_scheme_13 (by omega) (by omega) (by rw [b11]; rfl) (by decide) ?_
      refine mv_aload_n d_TrustDesk_scheme_108 rfl rfl ?_
      obtain ⟨v29, q28⟩ := tm_atI I6 t_a8 (k := 8) rfl
      refine tr_getK q28 d_TrustDesk_scheme_109 f_TrustDesk_436_11 ?_
      exact mv_iret d_TrustDesk_scheme_112 rfl (by first | rfl | decide) ⟨_, I6, _, rfl⟩
    · refine mv_tableIn (tgt := 113) (off := 100) d_TrustDesk_scheme_13 (by omega) (by omega) (by rw [b11]; rfl) (by decide) ?_
      refine mv_aload_n d_TrustDesk_scheme_113 rfl rfl ?_
      obtain ⟨v31, q30⟩ := tm_atI I6 t_a8 (k := 9) rfl
      refine tr_getK q30 d_TrustDesk_scheme_114 f_TrustDesk_439_11 ?_
      exact mv_iret d_TrustDesk_scheme_117 rfl (by first | rfl | decide) ⟨_, I6, _, rfl⟩
abbrev kY_TrustDesk_sell : mj_Y := (⟨"TrustDesk", "sell", "(LTrustDesk$Fund;I)V"⟩, prog_1_method_35_code, 5, (Option.none : Option Jvm.ClassFile.FieldType))
theorem d_TrustDesk_sell_0 : decode kY_TrustDesk_sell.2.1 0 = .ok (.aload_n 0, 1) := by decide +kernel
theorem d_TrustDesk_sell_1 : decode kY_TrustDesk_sell.2.1 1 = .ok (.getfield 10, 3) := by decide +kernel
theorem d_TrustDesk_sell_4 : decode kY_TrustDesk_sell.2.1 4 = .ok (.bipush 6, 2) := by decide +kernel
theorem d_TrustDesk_sell_6 : decode kY_TrustDesk_sell.2.1 6 = .ok (.aload_n 0, 1) := by decide +kernel
theorem d_TrustDesk_sell_7 : decode kY_TrustDesk_sell.2.1 7 = .ok (.getfield 73, 3) := by decide +kernel
theorem d_TrustDesk_sell_10 : decode kY_TrustDesk_sell.2.1 10 = .ok (.invokestatic 366, 3) := by decide +kernel
theorem d_TrustDesk_sell_13 : decode kY_TrustDesk_sell.2.1 13 = .ok (.aload_n 0, 1) := by decide +kernel
theorem d_TrustDesk_sell_14 : decode kY_TrustDesk_sell.2.1 14 = .ok (.getfield 73, 3) := by decide +kernel
theorem d_TrustDesk_sell_17 : decode kY_TrustDesk_sell.2.1 17 = .ok (.invokevirtual 84, 3) := by decide +kernel
theorem d_TrustDesk_sell_20 : decode kY_TrustDesk_sell.2.1 20 = .ok (.i2l, 1) := by decide +kernel
theorem d_TrustDesk_sell_21 : decode kY_TrustDesk_sell.2.1 21 = .ok (.lstore_n 3, 1) := by decide +kernel
theorem d_TrustDesk_sell_22 : decode kY_TrustDesk_sell.2.1 22 = .ok (.aload_n 1, 1) := by decide +kernel
theorem d_TrustDesk_sell_23 : decode kY_TrustDesk_sell.2.1 23 = .ok (.dup, 1) := by decide +kernel
theorem d_TrustDesk_sell_24 : decode kY_TrustDesk_sell.2.1 24 = .ok (.getfield 356, 3) := by decide +kernel
theorem d_TrustDesk_sell_27 : decode kY_TrustDesk_sell.2.1 27 = .ok (.iload_n 2, 1) := by decide +kernel
theorem d_TrustDesk_sell_28 : decode kY_TrustDesk_sell.2.1 28 = .ok (.isub, 1) := by decide +kernel
theorem d_TrustDesk_sell_29 : decode kY_TrustDesk_sell.2.1 29 = .ok (.putfield 356, 3) := by decide +kernel
theorem p_TrustDesk_356_6 : mj_fp "TrustDesk" 356 6 1 (kt_Fund 1) false := ⟨kR_Fund, kF_Fund, 15, "TrustDesk$Fund", kt_Fund, rfl, kg_6, by decide, (mj_in1 (List.mem_of_getElem? (i := 667) (by decide +kernel)) rfl), Or.inl rfl, kto_Fund, kn_Fund, rfl, rfl, fun h => by cases h⟩
theorem d_TrustDesk_sell_32 : decode kY_TrustDesk_sell.2.1 32 = .ok (.aload_n 1, 1) := by decide +kernel
theorem d_TrustDesk_sell_33 : decode kY_TrustDesk_sell.2.1 33 = .ok (.iload_n 2, 1) := by decide +kernel
theorem d_TrustDesk_sell_34 : decode kY_TrustDesk_sell.2.1 34 = .ok (.i2l, 1) := by decide +kernel
theorem d_TrustDesk_sell_35 : decode kY_TrustDesk_sell.2.1 35 = .ok (.lload_n 3, 1) := by decide +kernel
theorem d_TrustDesk_sell_36 : decode kY_TrustDesk_sell.2.1 36 = .ok (.lmul, 1) := by decide +kernel
theorem d_TrustDesk_sell_37 : decode kY_TrustDesk_sell.2.1 37 = .ok (.aload_n 0, 1) := by decide +kernel
theorem d_TrustDesk_sell_38 : decode kY_TrustDesk_sell.2.1 38 = .ok (.aload_n 0, 1) := by decide +kernel
theorem d_TrustDesk_sell_39 : decode kY_TrustDesk_sell.2.1 39 = .ok (.getfield 73, 3) := by decide +kernel
theorem d_TrustDesk_sell_42 : decode kY_TrustDesk_sell.2.1 42 = .ok (.invokevirtual 114, 3) := by decide +kernel
theorem d_TrustDesk_sell_45 : decode kY_TrustDesk_sell.2.1 45 = .ok (.iconst 5, 1) := by decide +kernel
theorem d_TrustDesk_sell_46 : decode kY_TrustDesk_sell.2.1 46 = .ok (.invokevirtual 118, 3) := by decide +kernel
theorem d_TrustDesk_sell_49 : decode kY_TrustDesk_sell.2.1 49 = .ok (.i2l, 1) := by decide +kernel
theorem d_TrustDesk_sell_50 : decode kY_TrustDesk_sell.2.1 50 = .ok (.lmul, 1) := by decide +kernel
theorem d_TrustDesk_sell_51 : decode kY_TrustDesk_sell.2.1 51 = .ok (.invokevirtual 176, 3) := by decide +kernel
theorem d_TrustDesk_sell_54 : decode kY_TrustDesk_sell.2.1 54 = .ok (.return_, 1) := by decide +kernel
def w_TrustDesk_sell : List Nat := [601, 603]
theorem tc_TrustDesk_sell {g : mj_G} {l : Launch} {d : Nat} {T0 : tm_H} {M0 : mj_M} {n0 x9 : Nat} {o0 : Nat} {o1 : Nat} {x2 : Int32} (h_o0 : T0 o0 = some (0, 12, 0)) (h_o1 : T0 o1 = some (0, 6, 0)) (I0 : tm_I tm_FT (tm_in w_TrustDesk_sell) x9 T0 M0 n0 T0 M0 n0) : mj_Met g l kY_TrustDesk_sell (d + 4) [.ref o0, .ref o1, .int x2] M0 n0 0 0 (tm_Q tm_FT (tm_in w_TrustDesk_sell) x9 T0 M0 n0 (fun r _ _ => r = none)) := by
  refine mj_enter (by decide) (Nat.le_of_ble_eq_true rfl) ?_
  refine mv_aload_n d_TrustDesk_sell_0 rfl rfl ?_
  obtain ⟨a2, q1, t_a2⟩ := tm_atR I0 h_o0 (k := 0) rfl
  refine tr_getK q1 d_TrustDesk_sell_1 f_TrustDesk_10_12 ?_
  refine mv_bipush (v := 6) d_TrustDesk_sell_4 (by decide) ?_
  refine mv_aload_n d_TrustDesk_sell_6 rfl rfl ?_
  obtain ⟨v4, q3⟩ := tm_atI I0 h_o0 (k := 12) rfl
  refine tr_getK q3 d_TrustDesk_sell_7 f_TrustDesk_73_12 ?_
  refine mv_callS (kc' := 0) (ks' := 0) (As := [.int v4]) (st9 := [.int v4, .int 6, .ref a2]) d_TrustDesk_sell_10 lS_TrustDesk_366 (tc_TrustDesk_yearOf (d := (d + 3)) (x9 := x9) (x1 := v4)  I0.start) rfl (Nat.le_of_ble_eq_true rfl) (Nat.le_of_ble_eq_true rfl) (Nat.le_of_ble_eq_true rfl) (hst := rfl) (fun b5r M6 n7 b5 => ?_)
  obtain ⟨T8, J9, v11, rfl⟩ := b5
  have I10 := I0.call J9 (tm_sub (by decide)) (Or.inl rfl)
  have t12 := J9.up h_o0
  have t13 := J9.up h_o1
  have t14 := J9.up t_a2
  have q15 := J9.keep h_o0 (by decide) q1
  have q16 := J9.keep h_o0 (by decide) q3
  refine mv_aload_n d_TrustDesk_sell_13 rfl rfl ?_
  refine tr_getK (k := 12) q16 d_TrustDesk_sell_14 f_TrustDesk_73_12 ?_
  obtain ⟨_, b23, -⟩ := I10.1 _ _ t14
  refine mv_callV (kc' := 0) (ks' := 0) (As := [.int 6, .int v11, .int v4]) (st9 := [.int v4, .int v11, .int 6, .ref a2]) d_TrustDesk_sell_17 lV_TrustDesk_84 b23 rfl (tc_Facts_asKnown (d := (d + 3)) (x9 := x9) (o0 := a2) (x1 := 6) (x2 := v11) (x3 := v4) t14 I10.start) rfl (Nat.le_of_ble_eq_true rfl) (Nat.le_of_ble_eq_true rfl) (Nat.le_of_ble_eq_true rfl) (hst := rfl) (fun b17r M18 n19 b17 => ?_)
  obtain ⟨T20, J21, v24, rfl⟩ := b17
  have I22 := I10.call J21 (tm_sub (by decide)) (Or.inl rfl)
  have t25 := J21.up t12
  have t26 := J21.up t13
  have q27 := J21.keep t12 (by decide) q15
  have t28 := J21.up t14
  have q29 := J21.keep t12 (by decide) q16
  refine mv_i2l (v := v24.toInt64) d_TrustDesk_sell_20 rfl ?_
  refine mv_lstore_n (lv' := [(3, .long v24.toInt64), (0, .ref o0), (1, .ref o1), (2, .int x2)]) d_TrustDesk_sell_21 rfl (by decide) rfl ?_
  refine mv_aload_n d_TrustDesk_sell_22 rfl rfl ?_
  refine mv_dup d_TrustDesk_sell_23 rfl ?_
  obtain ⟨v31, q30⟩ := tm_atI I22 t26 (k := 1) rfl
  refine tr_getK q30 d_TrustDesk_sell_24 f_TrustDesk_356_6 ?_
  refine mv_iload_n d_TrustDesk_sell_27 rfl rfl ?_
  refine mv_isub d_TrustDesk_sell_28 ?_
  refine tr_putK tm_okF I22 t26 (k := 1) rfl ⟨_, rfl⟩ (Or.inl (by decide)) d_TrustDesk_sell_29 p_TrustDesk_356_6 rfl rfl (fun M32 I33 q34 K35 => ?_)
  refine mv_aload_n d_TrustDesk_sell_32 rfl rfl ?_
  refine mv_iload_n d_TrustDesk_sell_33 rfl rfl ?_
  refine mv_i2l (v := x2.toInt64) d_TrustDesk_sell_34 rfl ?_
  refine mv_lload_n d_TrustDesk_sell_35 rfl rfl ?_
  refine mv_lmul d_TrustDesk_sell_36 ?_
  refine mv_aload_n d_TrustDesk_sell_37 rfl rfl ?_
  refine mv_aload_n d_TrustDesk_sell_38 rfl rfl ?_
  refine tr_getK (k := 12) (K35 _ 12 12 _ rfl q29) d_TrustDesk_sell_39 f_TrustDesk_73_12 ?_
  obtain ⟨_, b42, -⟩ := I33.1 _ _ t25
  refine mv_callV (kc' := 0) (ks' := 0) (As := [.int v4]) (st9 := [.int v4, .ref o0, .long (x2.toInt64 * v24.toInt64), .ref o1]) d_TrustDesk_sell_42 lV_TrustDesk_114 b42 rfl (tc_TrustDesk_inForce (d := d) (x9 := x9) (o0 := o0) (x1 := v4) t25 I33.start) rfl (Nat.le_of_ble_eq_true rfl) (Nat.le_of_ble_eq_true rfl) (Nat.le_of_ble_eq_true rfl) (hst := rfl) (fun b36r M37 n38 b36 => ?_)
  obtain ⟨T39, J40, a43, rfl, t_a43⟩ := b36
  have I41 := I33.call J40 (tm_sub (by decide)) (Or.inl rfl)
  have t44 := J40.up t25
  have t45 := J40.up t26
  have q46 := J40.keep t25 (by decide) (K35 _ 12 0 _ rfl q27)
  have t47 := J40.up t28
  have q48 := J40.keep t25 (by decide) (K35 _ 12 12 _ rfl q29)
  have q49 := J40.keep t26 (by decide) q34
  refine mv_iconst (v := 5) d_TrustDesk_sell_45 (by decide) ?_
  obtain ⟨_, b56, -⟩ := I41.1 _ _ t_a43
  refine mv_callV (kc' := 0) (ks' := 0) (As := [.int 5]) (st9 := [.int 5, .ref a43, .long (x2.toInt64 * v24.toInt64), .ref o1]) d_TrustDesk_sell_46 lV_TrustDesk_118 b56 rfl (tc_Act_rule (d := (d + 3)) (x9 := x9) (o0 := a43) (x1 := 5) t_a43 I41.start) rfl (Nat.le_of_ble_eq_true rfl) (Nat.le_of_ble_eq_true rfl) (Nat.le_of_ble_eq_true rfl) (hst := rfl) (fun b50r M51 n52 b50 => ?_)
  obtain ⟨T53, J54, v57, rfl⟩ := b50
  have I55 := I41.call J54 (tm_sub (by decide)) (Or.inl rfl)
  have t58 := J54.up t44
  have t59 := J54.up t45
  have q60 := J54.keep t44 (by decide) q46
  have t61 := J54.up t47
  have q62 := J54.keep t44 (by decide) q48
  have q63 := J54.keep t45 (by decide) q49
  refine mv_i2l (v := v57.toInt64) d_TrustDesk_sell_49 rfl ?_
  refine mv_lmul d_TrustDesk_sell_50 ?_
  obtain ⟨_, b70, -⟩ := I55.1 _ _ t59
  refine mv_callV (kc' := 0) (ks' := 0) (As := [.long ((x2.toInt64 * v24.toInt64) * v57.toInt64)]) (st9 := [.long ((x2.toInt64 * v24.toInt64) * v57.toInt64), .ref o1]) d_TrustDesk_sell_51 lV_TrustDesk_176 b70 rfl (tc_Fund_receive (d := (d + 2)) (x9 := x9) (o0 := o1) (x1 := ((x2.toInt64 * v24.toInt64) * v57.toInt64)) t59 I55.start) rfl (Nat.le_of_ble_eq_true rfl) (Nat.le_of_ble_eq_true rfl) (Nat.le_of_ble_eq_true rfl) (hst := rfl) (fun b64r M65 n66 b64 => ?_)
  obtain ⟨T67, J68, rfl⟩ := b64
  have I69 := I55.call J68 (tm_sub (by decide)) (Or.inl rfl)
  have t71 := J68.up t58
  have t72 := J68.up t59
  have q73 := J68.keep t58 (by decide) q60
  have t74 := J68.up t61
  have q75 := J68.keep t58 (by decide) q62
  have q76 := J68.keep t59 (by decide) q63
  exact mv_vret d_TrustDesk_sell_54 rfl ⟨_, I69, rfl⟩
abbrev kY_TrustDesk_strike : mj_Y := (⟨"TrustDesk", "strike", "(LTrustDesk$End;)V"⟩, prog_1_method_36_code, 2, (Option.none : Option Jvm.ClassFile.FieldType))
theorem d_TrustDesk_strike_0 : decode kY_TrustDesk_strike.2.1 0 = .ok (.aload_n 1, 1) := by decide +kernel
theorem d_TrustDesk_strike_1 : decode kY_TrustDesk_strike.2.1 1 = .ok (.ifnull 8, 3) := by decide +kernel
theorem d_TrustDesk_strike_4 : decode kY_TrustDesk_strike.2.1 4 = .ok (.aload_n 1, 1) := by decide +kernel
theorem d_TrustDesk_strike_5 : decode kY_TrustDesk_strike.2.1 5 = .ok (.iconst 2, 1) := by decide +kernel
theorem d_TrustDesk_strike_6 : decode kY_TrustDesk_strike.2.1 6 = .ok (.putfield 193, 3) := by decide +kernel
theorem p_TrustDesk_193_3 : mj_fp "TrustDesk" 193 3 1 (kt_End 1) false := ⟨kR_End, kF_End, 4, "TrustDesk$End", kt_End, rfl, kg_3, by decide, (mj_in1 (List.mem_of_getElem? (i := 790) (by decide +kernel)) rfl), Or.inl rfl, kto_End, kn_End, rfl, rfl, fun h => by cases h⟩
theorem d_TrustDesk_strike_9 : decode kY_TrustDesk_strike.2.1 9 = .ok (.return_, 1) := by decide +kernel
def w_TrustDesk_strike : List Nat := [301]
theorem tc_TrustDesk_strike {g : mj_G} {l : Launch} {d : Nat} {T0 : tm_H} {M0 : mj_M} {n0 x9 : Nat} {o0 : Nat} {o1 : Nat} (h_o0 : T0 o0 = some (0, 12, 0)) (h_o1 : T0 o1 = some (0, 3, 0)) (I0 : tm_I tm_FT (tm_in w_TrustDesk_strike) x9 T0 M0 n0 T0 M0 n0) : mj_Met g l kY_TrustDesk_strike d [.ref o0, .ref o1] M0 n0 0 0 (tm_Q tm_FT (tm_in w_TrustDesk_strike) x9 T0 M0 n0 (fun r _ _ => r = none)) := by
  refine mj_enter (by decide) (Nat.le_of_ble_eq_true rfl) ?_
  refine mv_aload_n d_TrustDesk_strike_0 rfl rfl ?_
  refine mv_ifnull d_TrustDesk_strike_1 ?_
  refine mv_aload_n d_TrustDesk_strike_4 rfl rfl ?_
  refine mv_iconst (v := 2) d_TrustDesk_strike_5 (by decide) ?_
  refine tr_putK tm_okF I0 h_o1 (k := 1) rfl ⟨_, rfl⟩ (Or.inl (by decide)) d_TrustDesk_strike_6 p_TrustDesk_193_3 rfl rfl (fun M1 I2 q3 K4 => ?_)
  exact mv_vret d_TrustDesk_strike_9 rfl ⟨_, I2, rfl⟩
abbrev kY_TrustDesk_trustee : mj_Y := (⟨"TrustDesk", "trustee", "(II)Z"⟩, prog_1_method_17_code, 4, (Option.some Jvm.ClassFile.FieldType.boolean))
theorem d_TrustDesk_trustee_0 : decode kY_TrustDesk_trustee.2.1 0 = .ok (.aload_n 0, 1) := by decide +kernel
theorem d_TrustDesk_trustee_1 : decode kY_TrustDesk_trustee.2.1 1 = .ok (.iload_n 1, 1) := by decide +kernel
theorem d_TrustDesk_trustee_2 : decode kY_TrustDesk_trustee.2.1 2 = .ok (.invokevirtual 257, 3) := by decide +kernel
theorem d_TrustDesk_trustee_5 : decode kY_TrustDesk_trustee.2.1 5 = .ok (.astore_n 3, 1) := by decide +kernel
theorem d_TrustDesk_trustee_6 : decode kY_TrustDesk_trustee.2.1 6 = .ok (.aload_n 3, 1) := by decide +kernel
theorem d_TrustDesk_trustee_7 : decode kY_TrustDesk_trustee.2.1 7 = .ok (.ifnull 17, 3) := by decide +kernel
theorem d_TrustDesk_trustee_24 : decode kY_TrustDesk_trustee.2.1 24 = .ok (.iconst 0, 1) := by decide +kernel
theorem d_TrustDesk_trustee_25 : decode kY_TrustDesk_trustee.2.1 25 = .ok (.ireturn, 1) := by decide +kernel
theorem d_TrustDesk_trustee_10 : decode kY_TrustDesk_trustee.2.1 10 = .ok (.iload_n 2, 1) := by decide +kernel
theorem d_TrustDesk_trustee_11 : decode kY_TrustDesk_trustee.2.1 11 = .ok (.invokestatic 261, 3) := by decide +kernel
theorem d_TrustDesk_trustee_14 : decode kY_TrustDesk_trustee.2.1 14 = .ok (.ifCond .eq 10, 3) := by decide +kernel
theorem d_TrustDesk_trustee_17 : decode kY_TrustDesk_trustee.2.1 17 = .ok (.aload_n 3, 1) := by decide +kernel
theorem d_TrustDesk_trustee_18 : decode kY_TrustDesk_trustee.2.1 18 = .ok (.invokevirtual 162, 3) := by decide +kernel
theorem d_TrustDesk_trustee_21 : decode kY_TrustDesk_trustee.2.1 21 = .ok (.ifCond .eq 5, 3) := by decide +kernel
theorem d_TrustDesk_trustee_26 : decode kY_TrustDesk_trustee.2.1 26 = .ok (.aload_n 3, 1) := by decide +kernel
theorem d_TrustDesk_trustee_27 : decode kY_TrustDesk_trustee.2.1 27 = .ok (.iload_n 2, 1) := by decide +kernel
theorem d_TrustDesk_trustee_28 : decode kY_TrustDesk_trustee.2.1 28 = .ok (.invokevirtual 264, 3) := by decide +kernel
abbrev kY_Fund_takeTrustee : mj_Y := (⟨"TrustDesk$Fund", "takeTrustee", "(I)Z"⟩, prog_7_method_12_code, 2, (Option.some Jvm.ClassFile.FieldType.boolean))
theorem d_Fund_takeTrustee_0 : decode kY_Fund_takeTrustee.2.1 0 = .ok (.iload_n 1, 1) := by decide +kernel
theorem d_Fund_takeTrustee_1 : decode kY_Fund_takeTrustee.2.1 1 = .ok (.ifCond .lt 29, 3) := by decide +kernel
theorem d_Fund_takeTrustee_30 : decode kY_Fund_takeTrustee.2.1 30 = .ok (.iconst 0, 1) := by decide +kernel
theorem d_Fund_takeTrustee_31 : decode kY_Fund_takeTrustee.2.1 31 = .ok (.ireturn, 1) := by decide +kernel
theorem d_Fund_takeTrustee_4 : decode kY_Fund_takeTrustee.2.1 4 = .ok (.iload_n 1, 1) := by decide +kernel
theorem d_Fund_takeTrustee_5 : decode kY_Fund_takeTrustee.2.1 5 = .ok (.bipush 100, 2) := by decide +kernel
theorem d_Fund_takeTrustee_7 : decode kY_Fund_takeTrustee.2.1 7 = .ok (.if_icmp .ge 23, 3) := by decide +kernel
theorem d_Fund_takeTrustee_10 : decode kY_Fund_takeTrustee.2.1 10 = .ok (.aload_n 0, 1) := by decide +kernel
theorem d_Fund_takeTrustee_11 : decode kY_Fund_takeTrustee.2.1 11 = .ok (.getfield 32, 3) := by decide +kernel
theorem d_Fund_takeTrustee_14 : decode kY_Fund_takeTrustee.2.1 14 = .ok (.iload_n 1, 1) := by decide +kernel
theorem d_Fund_takeTrustee_15 : decode kY_Fund_takeTrustee.2.1 15 = .ok (.baload, 1) := by decide +kernel
theorem d_Fund_takeTrustee_16 : decode kY_Fund_takeTrustee.2.1 16 = .ok (.ifCond .ne 14, 3) := by decide +kernel
theorem d_Fund_takeTrustee_19 : decode kY_Fund_takeTrustee.2.1 19 = .ok (.aload_n 0, 1) := by decide +kernel
theorem d_Fund_takeTrustee_20 : decode kY_Fund_takeTrustee.2.1 20 = .ok (.getfield 87, 3) := by decide +kernel
theorem f_Fund_87_6 : mj_fl "TrustDesk$Fund" 87 6 7 := ⟨kR_Fund, kF_Fund, 15, "TrustDesk$Fund", rfl, kg_6, by decide, (mj_in1 (List.mem_of_getElem? (i := 682) (by decide +kernel)) rfl), Or.inl rfl⟩
theorem d_Fund_takeTrustee_23 : decode kY_Fund_takeTrustee.2.1 23 = .ok (.aload_n 0, 1) := by decide +kernel
theorem d_Fund_takeTrustee_24 : decode kY_Fund_takeTrustee.2.1 24 = .ok (.getfield 9, 3) := by decide +kernel
theorem f_Fund_9_6 : mj_fl "TrustDesk$Fund" 9 6 5 := ⟨kR_Fund, kF_Fund, 15, "TrustDesk$Fund", rfl, kg_6, by decide, (mj_in1 (List.mem_of_getElem? (i := 676) (by decide +kernel)) rfl), Or.inl rfl⟩
theorem d_Fund_takeTrustee_27 : decode kY_Fund_takeTrustee.2.1 27 = .ok (.if_icmp .lt 5, 3) := by decide +kernel
theorem d_Fund_takeTrustee_32 : decode kY_Fund_takeTrustee.2.1 32 = .ok (.aload_n 0, 1) := by decide +kernel
theorem d_Fund_takeTrustee_33 : decode kY_Fund_takeTrustee.2.1 33 = .ok (.getfield 32, 3) := by decide +kernel
theorem d_Fund_takeTrustee_36 : decode kY_Fund_takeTrustee.2.1 36 = .ok (.iload_n 1, 1) := by decide +kernel
theorem d_Fund_takeTrustee_37 : decode kY_Fund_takeTrustee.2.1 37 = .ok (.iconst 1, 1) := by decide +kernel
theorem d_Fund_takeTrustee_38 : decode kY_Fund_takeTrustee.2.1 38 = .ok (.bastore, 1) := by decide +kernel
theorem d_Fund_takeTrustee_39 : decode kY_Fund_takeTrustee.2.1 39 = .ok (.aload_n 0, 1) := by decide +kernel
theorem d_Fund_takeTrustee_40 : decode kY_Fund_takeTrustee.2.1 40 = .ok (.dup, 1) := by decide +kernel
theorem d_Fund_takeTrustee_41 : decode kY_Fund_takeTrustee.2.1 41 = .ok (.getfield 87, 3) := by decide +kernel
theorem d_Fund_takeTrustee_44 : decode kY_Fund_takeTrustee.2.1 44 = .ok (.iconst 1, 1) := by decide +kernel
theorem d_Fund_takeTrustee_45 : decode kY_Fund_takeTrustee.2.1 45 = .ok (.iadd, 1) := by decide +kernel
theorem d_Fund_takeTrustee_46 : decode kY_Fund_takeTrustee.2.1 46 = .ok (.putfield 87, 3) := by decide +kernel
theorem p_Fund_87_6 : mj_fp "TrustDesk$Fund" 87 6 7 (kt_Fund 7) false := ⟨kR_Fund, kF_Fund, 15, "TrustDesk$Fund", kt_Fund, rfl, kg_6, by decide, (mj_in1 (List.mem_of_getElem? (i := 682) (by decide +kernel)) rfl), Or.inl rfl, kto_Fund, kn_Fund, rfl, rfl, fun h => by cases h⟩
theorem d_Fund_takeTrustee_49 : decode kY_Fund_takeTrustee.2.1 49 = .ok (.iconst 1, 1) := by decide +kernel
theorem d_Fund_takeTrustee_50 : decode kY_Fund_takeTrustee.2.1 50 = .ok (.ireturn, 1) := by decide +kernel
def w_Fund_takeTrustee : List Nat := [607, 663]
theorem tc_Fund_takeTrustee {g : mj_G} {l : Launch} {d : Nat} {T0 : tm_H} {M0 : mj_M} {n0 x9 : Nat} {o0 : Nat} {x1 : Int32} (h_o0 : T0 o0 = some (0, 6, 0)) (I0 : tm_I tm_FT (tm_in w_Fund_takeTrustee) x9 T0 M0 n0 T0 M0 n0) : mj_Met g l kY_Fund_takeTrustee d [.ref o0, .int x1] M0 n0 0 0 (tm_Q tm_FT (tm_in w_Fund_takeTrustee) x9 T0 M0 n0 (fun r _ _ => ∃ v : Int32, r = some (.int v) ∧ 0 ≤ v.toInt ∧ v.toInt ≤ 1)) := by
  refine mj_enter (by decide) (Nat.le_of_ble_eq_true rfl) ?_
  refine mv_iload_n d_Fund_takeTrustee_0 rfl rfl ?_
  have := mz_hi x1
  refine mv_if_ltZ (tgt := 30) (a := x1.toInt) d_Fund_takeTrustee_1 (by decide) rfl (fun b1 => ?_) (fun b1 => ?_)
  · refine mv_iconst (v := 0) d_Fund_takeTrustee_30 (by decide) ?_
    exact mv_iret d_Fund_takeTrustee_31 rfl (by decide) ⟨_, I0, _, rfl, by decide, by decide⟩
  · refine mv_iload_n d_Fund_takeTrustee_4 rfl rfl ?_
    refine mv_bipush (v := 100) d_Fund_takeTrustee_5 (by decide) ?_
    have := mz_hi x1
    refine mv_icmp_geZ (tgt := 30) (a := x1.toInt) (b := 100) d_Fund_takeTrustee_7 (by decide) rfl (by decide) (fun b2 => ?_) (fun b2 => ?_)
    · refine mv_iconst (v := 0) d_Fund_takeTrustee_30 (by decide) ?_
      exact mv_iret d_Fund_takeTrustee_31 rfl (by decide) ⟨_, I0, _, rfl, by decide, by decide⟩
    · refine mv_aload_n d_Fund_takeTrustee_10 rfl rfl ?_
      obtain ⟨a4, q3, t_a4⟩ := tm_atR I0 h_o0 (k := 13) rfl
      refine tr_getK q3 d_Fund_takeTrustee_11 f_Fund_32_6 ?_
      refine mv_iload_n d_Fund_takeTrustee_14 rfl rfl ?_
      refine tr_zald I0 t_a4 (by decide) d_Fund_takeTrustee_15 (vp_in_iff.mpr (by omega)) (fun v5 => ?_)
      have := mz_hi v5
      refine mv_if_neZ (tgt := 30) (a := v5.toInt) d_Fund_takeTrustee_16 (by decide) rfl (fun b6 => ?_) (fun b6 => ?_)
      · refine mv_iconst (v := 0) d_Fund_takeTrustee_30 (by decide) ?_
        exact mv_iret d_Fund_takeTrustee_31 rfl (by decide) ⟨_, I0, _, rfl, by decide, by decide⟩
      · refine mv_aload_n d_Fund_takeTrustee_19 rfl rfl ?_
        obtain ⟨v8, q7⟩ := tm_atI I0 h_o0 (k := 7) rfl
        refine tr_getK q7 d_Fund_takeTrustee_20 f_Fund_87_6 ?_
        refine mv_aload_n d_Fund_takeTrustee_23 rfl rfl ?_
        obtain ⟨v10, q9⟩ := tm_atI I0 h_o0 (k := 5) rfl
        refine tr_getK q9 d_Fund_takeTrustee_24 f_Fund_9_6 ?_
        have := mz_hi v8
        have := mz_hi v10
        refine mv_icmp_ltZ (tgt := 32) (a := v8.toInt) (b := v10.toInt) d_Fund_takeTrustee_27 (by decide) rfl rfl (fun b11 => ?_) (fun b11 => ?_)
        · refine mv_aload_n d_Fund_takeTrustee_32 rfl rfl ?_
          refine tr_getK (k := 13) q3 d_Fund_takeTrustee_33 f_Fund_32_6 ?_
          refine mv_iload_n d_Fund_takeTrustee_36 rfl rfl ?_
          refine mv_iconst (v := 1) d_Fund_takeTrustee_37 (by decide) ?_
          refine tr_zastK tm_okF I0 t_a4 (by decide) (Or.inl (by decide)) d_Fund_takeTrustee_38 (vp_in_iff.mpr (by omega)) (fun M12 I13 K14 => ?_)
          refine mv_aload_n d_Fund_takeTrustee_39 rfl rfl ?_
          refine mv_dup d_Fund_takeTrustee_40 rfl ?_
          refine tr_getK (k := 7) (K14 _ 6 7 _ q7) d_Fund_takeTrustee_41 f_Fund_87_6 ?_
          refine mv_iconst (v := 1) d_Fund_takeTrustee_44 (by decide) ?_
          refine mv_iadd d_Fund_takeTrustee_45 ?_
          refine tr_putK tm_okF I13 h_o0 (k := 7) rfl ⟨_, rfl⟩ (Or.inl (by decide)) d_Fund_takeTrustee_46 p_Fund_87_6 rfl rfl (fun M15 I16 q17 K18 => ?_)
          refine mv_iconst (v := 1) d_Fund_takeTrustee_49 (by decide) ?_
          exact mv_iret d_Fund_takeTrustee_50 rfl (by decide) ⟨_, I16, _, rfl, by decide, by decide⟩
        · refine mv_iconst (v := 0) d_Fund_takeTrustee_30 (by decide) ?_
          exact mv_iret d_Fund_takeTrustee_31 rfl (by decide) ⟨_, I0, _, rfl, by decide, by decide⟩
theorem lV_TrustDesk_264 : mj_lV "TrustDesk" 264 kY_Fund_takeTrustee 1 := ⟨⟨(mj_in1 (List.mem_of_getElem? (i := 945) (by decide +kernel)) rfl), (mj_in1 (List.mem_of_getElem? (i := 21) (by decide +kernel)) rfl), (mj_in1 (List.mem_of_getElem? (i := 948) (by decide +kernel)) rfl), by decide, rfl, by decide⟩, (mj_in1 (List.mem_of_getElem? (i := 946) (by decide +kernel)) rfl), (mj_in1 (List.mem_of_getElem? (i := 947) (by decide +kernel)) rfl)⟩
theorem d_TrustDesk_trustee_31 : decode kY_TrustDesk_trustee.2.1 31 = .ok (.ireturn, 1) := by decide +kernel
def w_TrustDesk_trustee : List Nat := [607, 663]
theorem tc_TrustDesk_trustee {g : mj_G} {l : Launch} {d : Nat} {T0 : tm_H} {M0 : mj_M} {n0 x9 : Nat} {o0 : Nat} {x1 : Int32} {x2 : Int32} (h_o0 : T0 o0 = some (0, 12, 0)) (I0 : tm_I tm_FT (tm_in w_TrustDesk_trustee) x9 T0 M0 n0 T0 M0 n0) : mj_Met g l kY_TrustDesk_trustee (d + 4) [.ref o0, .int x1, .int x2] M0 n0 0 0 (tm_Q tm_FT (tm_in w_TrustDesk_trustee) x9 T0 M0 n0 (fun r _ _ => ∃ v : Int32, r = some (.int v) ∧ 0 ≤ v.toInt ∧ v.toInt ≤ 1)) := by
  refine mj_enter (by decide) (Nat.le_of_ble_eq_true rfl) ?_
  refine mv_aload_n d_TrustDesk_trustee_0 rfl rfl ?_
  refine mv_iload_n d_TrustDesk_trustee_1 rfl rfl ?_
  obtain ⟨_, b7, -⟩ := I0.1 _ _ h_o0
  refine mv_callV (kc' := 0) (ks' := 0) (As := [.int x1]) (st9 := [.int x1, .ref o0]) d_TrustDesk_trustee_2 lV_TrustDesk_257 b7 rfl (tc_TrustDesk_fundAt (d := d) (x9 := x9) (o0 := o0) (x1 := x1) h_o0 I0.start) rfl (Nat.le_of_ble_eq_true rfl) (Nat.le_of_ble_eq_true rfl) (Nat.le_of_ble_eq_true rfl) (hst := rfl) (fun b1r M2 n3 b1 => ?_)
  obtain ⟨T4, J5, b9⟩ := b1
  have I6 := I0.call J5 (tm_sub (by decide)) (Or.inl rfl)
  have t10 := J5.up h_o0
  rcases b9 with rfl | ⟨a8, rfl, t_a8⟩
  · refine mv_astore_nN (lv' := [(3, .null), (0, .ref o0), (1, .int x1), (2, .int x2)]) d_TrustDesk_trustee_5 rfl (by decide) rfl ?_
    refine mv_aload_nN d_TrustDesk_trustee_6 rfl rfl ?_
    refine mv_ifnullN (tgt := 24) d_TrustDesk_trustee_7 (by decide) ?_
    refine mv_iconst (v := 0) d_TrustDesk_trustee_24 (by decide) ?_
    exact mv_iret d_TrustDesk_trustee_25 rfl (by decide) ⟨_, I6, _, rfl, by decide, by decide⟩
  · refine mv_astore_n (lv' := [(3, .ref a8), (0, .ref o0), (1, .int x1), (2, .int x2)]) d_TrustDesk_trustee_5 rfl (by decide) rfl ?_
    refine mv_aload_n d_TrustDesk_trustee_6 rfl rfl ?_
    refine mv_ifnull d_TrustDesk_trustee_7 ?_
    refine mv_iload_n d_TrustDesk_trustee_10 rfl rfl ?_
    refine mv_callS (kc' := 0) (ks' := 0) (As := [.int x2]) (st9 := [.int x2]) d_TrustDesk_trustee_11 lS_TrustDesk_261 (tc_TrustDesk_isPerson (d := (d + 3)) (x9 := x9) (x1 := x2)  I6.start) rfl (Nat.le_of_ble_eq_true rfl) (Nat.le_of_ble_eq_true rfl) (Nat.le_of_ble_eq_true rfl) (hst := rfl) (fun b11r M12 n13 b11 => ?_)
    obtain ⟨T14, J15, v17, rfl, b18, b19⟩ := b11
    have I16 := I6.call J15 (tm_sub (by decide)) (Or.inl rfl)
    have t20 := J15.up t_a8
    have t21 := J15.up t10
    have := mz_hi v17
    refine mv_if_eqZ (tgt := 24) (a := v17.toInt) d_TrustDesk_trustee_14 (by decide) rfl (fun b22 => ?_) (fun b22 => ?_)
    · refine mv_iconst (v := 0) d_TrustDesk_trustee_24 (by decide) ?_
      exact mv_iret d_TrustDesk_trustee_25 rfl (by decide) ⟨_, I16, _, rfl, by decide, by decide⟩
    · refine mv_aload_n d_TrustDesk_trustee_17 rfl rfl ?_
      obtain ⟨_, b29, -⟩ := I16.1 _ _ t20
      refine mv_callV (kc' := 0) (ks' := 0) (As := []) (st9 := [.ref a8]) d_TrustDesk_trustee_18 lV_TrustDesk_162 b29 rfl (tc_Fund_isJoined (d := (d + 3)) (x9 := x9) (o0 := a8) t20 I16.start) rfl (Nat.le_of_ble_eq_true rfl) (Nat.le_of_ble_eq_true rfl) (Nat.le_of_ble_eq_true rfl) (hst := rfl) (fun b23r M24 n25 b23 => ?_)
      obtain ⟨T26, J27, v30, rfl, b31, b32⟩ := b23
      have I28 := I16.call J27 (tm_sub (by decide)) (Or.inl rfl)
      have t33 := J27.up t20
      have t34 := J27.up t21
      have := mz_hi v30
      refine mv_if_eqZ (tgt := 26) (a := v30.toInt) d_TrustDesk_trustee_21 (by decide) rfl (fun b35 => ?_) (fun b35 => ?_)
      · refine mv_aload_n d_TrustDesk_trustee_26 rfl rfl ?_
        refine mv_iload_n d_TrustDesk_trustee_27 rfl rfl ?_
        obtain ⟨_, b42, -⟩ := I28.1 _ _ t33
        refine mv_callV (kc' := 0) (ks' := 0) (As := [.int x2]) (st9 := [.int x2, .ref a8]) d_TrustDesk_trustee_28 lV_TrustDesk_264 b42 rfl (tc_Fund_takeTrustee (d := (d + 3)) (x9 := x9) (o0 := a8) (x1 := x2) t33 I28.start) rfl (Nat.le_of_ble_eq_true rfl) (Nat.le_of_ble_eq_true rfl) (Nat.le_of_ble_eq_true rfl) (hst := rfl) (fun b36r M37 n38 b36 => ?_)
        obtain ⟨T39, J40, v43, rfl, b44, b45⟩ := b36
        have I41 := I28.call J40 (tm_sub (by decide)) (Or.inl rfl)
        have t46 := J40.up t33
        have t47 := J40.up t34
        exact mv_iret d_TrustDesk_trustee_31 rfl (mz_nb (by omega) (by omega)) ⟨_, I41, _, rfl, by omega, by omega⟩
      · refine mv_iconst (v := 0) d_TrustDesk_trustee_24 (by decide) ?_
        exact mv_iret d_TrustDesk_trustee_25 rfl (by decide) ⟨_, I28, _, rfl, by decide, by decide⟩
abbrev kY_TrustDesk_vote : mj_Y := (⟨"TrustDesk", "vote", "(IIZ)Z"⟩, prog_1_method_22_code, 5, (Option.some Jvm.ClassFile.FieldType.boolean))
theorem d_TrustDesk_vote_0 : decode kY_TrustDesk_vote.2.1 0 = .ok (.aload_n 0, 1) := by decide +kernel
theorem d_TrustDesk_vote_1 : decode kY_TrustDesk_vote.2.1 1 = .ok (.iload_n 1, 1) := by decide +kernel
theorem d_TrustDesk_vote_2 : decode kY_TrustDesk_vote.2.1 2 = .ok (.invokevirtual 280, 3) := by decide +kernel
theorem d_TrustDesk_vote_5 : decode kY_TrustDesk_vote.2.1 5 = .ok (.astore 4, 2) := by decide +kernel
theorem d_TrustDesk_vote_7 : decode kY_TrustDesk_vote.2.1 7 = .ok (.aload 4, 2) := by decide +kernel
theorem d_TrustDesk_vote_9 : decode kY_TrustDesk_vote.2.1 9 = .ok (.ifnull 28, 3) := by decide +kernel
theorem d_TrustDesk_vote_37 : decode kY_TrustDesk_vote.2.1 37 = .ok (.iconst 0, 1) := by decide +kernel
theorem d_TrustDesk_vote_38 : decode kY_TrustDesk_vote.2.1 38 = .ok (.ireturn, 1) := by decide +kernel
theorem d_TrustDesk_vote_12 : decode kY_TrustDesk_vote.2.1 12 = .ok (.iload_n 2, 1) := by decide +kernel
theorem d_TrustDesk_vote_13 : decode kY_TrustDesk_vote.2.1 13 = .ok (.invokestatic 261, 3) := by decide +kernel
theorem d_TrustDesk_vote_16 : decode kY_TrustDesk_vote.2.1 16 = .ok (.ifCond .eq 21, 3) := by decide +kernel
theorem d_TrustDesk_vote_19 : decode kY_TrustDesk_vote.2.1 19 = .ok (.aload 4, 2) := by decide +kernel
theorem d_TrustDesk_vote_21 : decode kY_TrustDesk_vote.2.1 21 = .ok (.getfield 284, 3) := by decide +kernel
theorem d_TrustDesk_vote_24 : decode kY_TrustDesk_vote.2.1 24 = .ok (.ifCond .ne 13, 3) := by decide +kernel
theorem d_TrustDesk_vote_27 : decode kY_TrustDesk_vote.2.1 27 = .ok (.aload_n 0, 1) := by decide +kernel
theorem d_TrustDesk_vote_28 : decode kY_TrustDesk_vote.2.1 28 = .ok (.aload 4, 2) := by decide +kernel
theorem d_TrustDesk_vote_30 : decode kY_TrustDesk_vote.2.1 30 = .ok (.iload_n 2, 1) := by decide +kernel
theorem d_TrustDesk_vote_31 : decode kY_TrustDesk_vote.2.1 31 = .ok (.invokevirtual 294, 3) := by decide +kernel
theorem lV_TrustDesk_294 : mj_lV "TrustDesk" 294 kY_TrustDesk_maySpeak 2 := ⟨⟨(mj_in1 (List.mem_of_getElem? (i := 1037) (by decide +kernel)) rfl), (mj_in1 (List.mem_of_getElem? (i := 1) (by decide +kernel)) rfl), (mj_in1 (List.mem_of_getElem? (i := 1040) (by decide +kernel)) rfl), by decide, rfl, by decide⟩, (mj_in1 (List.mem_of_getElem? (i := 1039) (by decide +kernel)) rfl), (mj_in (List.mem_append_left _ (List.mem_of_getElem? (i := 53) (by decide +kernel))) rfl)⟩
theorem d_TrustDesk_vote_34 : decode kY_TrustDesk_vote.2.1 34 = .ok (.ifCond .ne 5, 3) := by decide +kernel
theorem d_TrustDesk_vote_39 : decode kY_TrustDesk_vote.2.1 39 = .ok (.aload 4, 2) := by decide +kernel
theorem d_TrustDesk_vote_41 : decode kY_TrustDesk_vote.2.1 41 = .ok (.iload_n 2, 1) := by decide +kernel
theorem d_TrustDesk_vote_42 : decode kY_TrustDesk_vote.2.1 42 = .ok (.iload_n 3, 1) := by decide +kernel
theorem d_TrustDesk_vote_43 : decode kY_TrustDesk_vote.2.1 43 = .ok (.invokevirtual 298, 3) := by decide +kernel
abbrev kY_Scheme_takeVote : mj_Y := (⟨"TrustDesk$Scheme", "takeVote", "(IZ)V"⟩, prog_12_method_4_code, 3, (Option.none : Option Jvm.ClassFile.FieldType))
theorem d_Scheme_takeVote_0 : decode kY_Scheme_takeVote.2.1 0 = .ok (.iload_n 1, 1) := by decide +kernel
theorem d_Scheme_takeVote_1 : decode kY_Scheme_takeVote.2.1 1 = .ok (.ifCond .lt 9, 3) := by decide +kernel
theorem d_Scheme_takeVote_10 : decode kY_Scheme_takeVote.2.1 10 = .ok (.return_, 1) := by decide +kernel
theorem d_Scheme_takeVote_4 : decode kY_Scheme_takeVote.2.1 4 = .ok (.iload_n 1, 1) := by decide +kernel
theorem d_Scheme_takeVote_5 : decode kY_Scheme_takeVote.2.1 5 = .ok (.bipush 100, 2) := by decide +kernel
theorem d_Scheme_takeVote_7 : decode kY_Scheme_takeVote.2.1 7 = .ok (.if_icmp .lt 4, 3) := by decide +kernel
theorem d_Scheme_takeVote_11 : decode kY_Scheme_takeVote.2.1 11 = .ok (.aload_n 0, 1) := by decide +kernel
theorem d_Scheme_takeVote_12 : decode kY_Scheme_takeVote.2.1 12 = .ok (.getfield 19, 3) := by decide +kernel
theorem d_Scheme_takeVote_15 : decode kY_Scheme_takeVote.2.1 15 = .ok (.iload_n 1, 1) := by decide +kernel
theorem d_Scheme_takeVote_16 : decode kY_Scheme_takeVote.2.1 16 = .ok (.baload, 1) := by decide +kernel
theorem d_Scheme_takeVote_17 : decode kY_Scheme_takeVote.2.1 17 = .ok (.iconst 1, 1) := by decide +kernel
theorem d_Scheme_takeVote_18 : decode kY_Scheme_takeVote.2.1 18 = .ok (.if_icmp .ne 16, 3) := by decide +kernel
theorem d_Scheme_takeVote_34 : decode kY_Scheme_takeVote.2.1 34 = .ok (.aload_n 0, 1) := by decide +kernel
theorem d_Scheme_takeVote_35 : decode kY_Scheme_takeVote.2.1 35 = .ok (.getfield 19, 3) := by decide +kernel
theorem d_Scheme_takeVote_38 : decode kY_Scheme_takeVote.2.1 38 = .ok (.iload_n 1, 1) := by decide +kernel
theorem d_Scheme_takeVote_39 : decode kY_Scheme_takeVote.2.1 39 = .ok (.baload, 1) := by decide +kernel
theorem d_Scheme_takeVote_40 : decode kY_Scheme_takeVote.2.1 40 = .ok (.iconst 2, 1) := by decide +kernel
theorem d_Scheme_takeVote_41 : decode kY_Scheme_takeVote.2.1 41 = .ok (.if_icmp .ne 13, 3) := by decide +kernel
theorem d_Scheme_takeVote_54 : decode kY_Scheme_takeVote.2.1 54 = .ok (.aload_n 0, 1) := by decide +kernel
theorem d_Scheme_takeVote_55 : decode kY_Scheme_takeVote.2.1 55 = .ok (.getfield 19, 3) := by decide +kernel
theorem d_Scheme_takeVote_58 : decode kY_Scheme_takeVote.2.1 58 = .ok (.iload_n 1, 1) := by decide +kernel
theorem d_Scheme_takeVote_59 : decode kY_Scheme_takeVote.2.1 59 = .ok (.iload_n 2, 1) := by decide +kernel
theorem d_Scheme_takeVote_60 : decode kY_Scheme_takeVote.2.1 60 = .ok (.ifCond .eq 7, 3) := by decide +kernel
theorem d_Scheme_takeVote_67 : decode kY_Scheme_takeVote.2.1 67 = .ok (.iconst 2, 1) := by decide +kernel
theorem d_Scheme_takeVote_68 : decode kY_Scheme_takeVote.2.1 68 = .ok (.i2b, 1) := by decide +kernel
theorem d_Scheme_takeVote_69 : decode kY_Scheme_takeVote.2.1 69 = .ok (.bastore, 1) := by decide +kernel
theorem d_Scheme_takeVote_70 : decode kY_Scheme_takeVote.2.1 70 = .ok (.iload_n 2, 1) := by decide +kernel
theorem d_Scheme_takeVote_71 : decode kY_Scheme_takeVote.2.1 71 = .ok (.ifCond .eq 16, 3) := by decide +kernel
theorem d_Scheme_takeVote_87 : decode kY_Scheme_takeVote.2.1 87 = .ok (.aload_n 0, 1) := by decide +kernel
theorem d_Scheme_takeVote_88 : decode kY_Scheme_takeVote.2.1 88 = .ok (.dup, 1) := by decide +kernel
theorem d_Scheme_takeVote_89 : decode kY_Scheme_takeVote.2.1 89 = .ok (.getfield 44, 3) := by decide +kernel
theorem f_Scheme_44_11 : mj_fl "TrustDesk$Scheme" 44 11 9 := ⟨kR_Scheme, kF_Scheme, 12, "TrustDesk$Scheme", rfl, kg_11, by decide, (mj_in1 (List.mem_of_getElem? (i := 984) (by decide +kernel)) rfl), Or.inl rfl⟩
theorem d_Scheme_takeVote_92 : decode kY_Scheme_takeVote.2.1 92 = .ok (.iconst 1, 1) := by decide +kernel
theorem d_Scheme_takeVote_93 : decode kY_Scheme_takeVote.2.1 93 = .ok (.iadd, 1) := by decide +kernel
theorem d_Scheme_takeVote_94 : decode kY_Scheme_takeVote.2.1 94 = .ok (.putfield 44, 3) := by decide +kernel
theorem p_Scheme_44_11 : mj_fp "TrustDesk$Scheme" 44 11 9 (kt_Scheme 9) false := ⟨kR_Scheme, kF_Scheme, 12, "TrustDesk$Scheme", kt_Scheme, rfl, kg_11, by decide, (mj_in1 (List.mem_of_getElem? (i := 984) (by decide +kernel)) rfl), Or.inl rfl, kto_Scheme, kn_Scheme, rfl, rfl, fun h => by cases h⟩
theorem d_Scheme_takeVote_97 : decode kY_Scheme_takeVote.2.1 97 = .ok (.return_, 1) := by decide +kernel
theorem d_Scheme_takeVote_63 : decode kY_Scheme_takeVote.2.1 63 = .ok (.iconst 1, 1) := by decide +kernel
theorem d_Scheme_takeVote_64 : decode kY_Scheme_takeVote.2.1 64 = .ok (.goto 4, 3) := by decide +kernel
theorem d_Scheme_takeVote_74 : decode kY_Scheme_takeVote.2.1 74 = .ok (.aload_n 0, 1) := by decide +kernel
theorem d_Scheme_takeVote_75 : decode kY_Scheme_takeVote.2.1 75 = .ok (.dup, 1) := by decide +kernel
theorem d_Scheme_takeVote_76 : decode kY_Scheme_takeVote.2.1 76 = .ok (.getfield 41, 3) := by decide +kernel
theorem f_Scheme_41_11 : mj_fl "TrustDesk$Scheme" 41 11 8 := ⟨kR_Scheme, kF_Scheme, 12, "TrustDesk$Scheme", rfl, kg_11, by decide, (mj_in1 (List.mem_of_getElem? (i := 982) (by decide +kernel)) rfl), Or.inl rfl⟩
theorem d_Scheme_takeVote_79 : decode kY_Scheme_takeVote.2.1 79 = .ok (.iconst 1, 1) := by decide +kernel
theorem d_Scheme_takeVote_80 : decode kY_Scheme_takeVote.2.1 80 = .ok (.iadd, 1) := by decide +kernel
theorem d_Scheme_takeVote_81 : decode kY_Scheme_takeVote.2.1 81 = .ok (.putfield 41, 3) := by decide +kernel
theorem p_Scheme_41_11 : mj_fp "TrustDesk$Scheme" 41 11 8 (kt_Scheme 8) false := ⟨kR_Scheme, kF_Scheme, 12, "TrustDesk$Scheme", kt_Scheme, rfl, kg_11, by decide, (mj_in1 (List.mem_of_getElem? (i := 982) (by decide +kernel)) rfl), Or.inl rfl, kto_Scheme, kn_Scheme, rfl, rfl, fun h => by cases h⟩
theorem d_Scheme_takeVote_84 : decode kY_Scheme_takeVote.2.1 84 = .ok (.goto 13, 3) := by decide +kernel
theorem d_Scheme_takeVote_44 : decode kY_Scheme_takeVote.2.1 44 = .ok (.aload_n 0, 1) := by decide +kernel
theorem d_Scheme_takeVote_45 : decode kY_Scheme_takeVote.2.1 45 = .ok (.dup, 1) := by decide +kernel
theorem d_Scheme_takeVote_46 : decode kY_Scheme_takeVote.2.1 46 = .ok (.getfield 44, 3) := by decide +kernel
theorem d_Scheme_takeVote_49 : decode kY_Scheme_takeVote.2.1 49 = .ok (.iconst 1, 1) := by decide +kernel
theorem d_Scheme_takeVote_50 : decode kY_Scheme_takeVote.2.1 50 = .ok (.isub, 1) := by decide +kernel
theorem d_Scheme_takeVote_51 : decode kY_Scheme_takeVote.2.1 51 = .ok (.putfield 44, 3) := by decide +kernel
theorem d_Scheme_takeVote_21 : decode kY_Scheme_takeVote.2.1 21 = .ok (.aload_n 0, 1) := by decide +kernel
theorem d_Scheme_takeVote_22 : decode kY_Scheme_takeVote.2.1 22 = .ok (.dup, 1) := by decide +kernel
theorem d_Scheme_takeVote_23 : decode kY_Scheme_takeVote.2.1 23 = .ok (.getfield 41, 3) := by decide +kernel
theorem d_Scheme_takeVote_26 : decode kY_Scheme_takeVote.2.1 26 = .ok (.iconst 1, 1) := by decide +kernel
theorem d_Scheme_takeVote_27 : decode kY_Scheme_takeVote.2.1 27 = .ok (.isub, 1) := by decide +kernel
theorem d_Scheme_takeVote_28 : decode kY_Scheme_takeVote.2.1 28 = .ok (.putfield 41, 3) := by decide +kernel
theorem d_Scheme_takeVote_31 : decode kY_Scheme_takeVote.2.1 31 = .ok (.goto 23, 3) := by decide +kernel
def w_Scheme_takeVote : List Nat := [1108, 1109, 1161]
theorem tc_Scheme_takeVote {g : mj_G} {l : Launch} {d : Nat} {T0 : tm_H} {M0 : mj_M} {n0 x9 : Nat} {o0 : Nat} {x1 : Int32} {x2 : Int32} (h_o0 : T0 o0 = some (0, 11, 0)) (I0 : tm_I tm_FT (tm_in w_Scheme_takeVote) x9 T0 M0 n0 T0 M0 n0) : mj_Met g l kY_Scheme_takeVote d [.ref o0, .int x1, .int x2] M0 n0 0 0 (tm_Q tm_FT (tm_in w_Scheme_takeVote) x9 T0 M0 n0 (fun r _ _ => r = none)) := by
  refine mj_enter (by decide) (Nat.le_of_ble_eq_true rfl) ?_
  refine mv_iload_n d_Scheme_takeVote_0 rfl rfl ?_
  have := mz_hi x1
  refine mv_if_ltZ (tgt := 10) (a := x1.toInt) d_Scheme_takeVote_1 (by decide) rfl (fun b1 => ?_) (fun b1 => ?_)
  · exact mv_vret d_Scheme_takeVote_10 rfl ⟨_, I0, rfl⟩
  · refine mv_iload_n d_Scheme_takeVote_4 rfl rfl ?_
    refine mv_bipush (v := 100) d_Scheme_takeVote_5 (by decide) ?_
    have := mz_hi x1
    refine mv_icmp_ltZ (tgt := 11) (a := x1.toInt) (b := 100) d_Scheme_takeVote_7 (by decide) rfl (by decide) (fun b2 => ?_) (fun b2 => ?_)
    · refine mv_aload_n d_Scheme_takeVote_11 rfl rfl ?_
      obtain ⟨a4, q3, t_a4⟩ := tm_atR I0 h_o0 (k := 11) rfl
      refine tr_getK q3 d_Scheme_takeVote_12 f_Scheme_19_11 ?_
      refine mv_iload_n d_Scheme_takeVote_15 rfl rfl ?_
      refine tr_bald I0 t_a4 (by decide) d_Scheme_takeVote_16 (vp_in_iff.mpr (by omega)) (fun v5 => ?_)
      refine mv_iconst (v := 1) d_Scheme_takeVote_17 (by decide) ?_
      have := mz_hi v5
      refine mv_icmp_neZ (tgt := 34) (a := v5.toInt) (b := 1) d_Scheme_takeVote_18 (by decide) rfl (by decide) (fun b6 => ?_) (fun b6 => ?_)
      · refine mv_aload_n d_Scheme_takeVote_34 rfl rfl ?_
        refine tr_getK (k := 11) q3 d_Scheme_takeVote_35 f_Scheme_19_11 ?_
        refine mv_iload_n d_Scheme_takeVote_38 rfl rfl ?_
        refine tr_bald I0 t_a4 (by decide) d_Scheme_takeVote_39 (vp_in_iff.mpr (by omega)) (fun v7 => ?_)
        refine mv_iconst (v := 2) d_Scheme_takeVote_40 (by decide) ?_
        have := mz_hi v7
        refine mv_icmp_neZ (tgt := 54) (a := v7.toInt) (b := 2) d_Scheme_takeVote_41 (by decide) rfl (by decide) (fun b8 => ?_) (fun b8 => ?_)
        · refine mv_aload_n d_Scheme_takeVote_54 rfl rfl ?_
          refine tr_getK (k := 11) q3 d_Scheme_takeVote_55 f_Scheme_19_11 ?_
          refine mv_iload_n d_Scheme_takeVote_58 rfl rfl ?_
          refine mv_iload_n d_Scheme_takeVote_59 rfl rfl ?_
          have := mz_hi x2
          refine mv_if_eqZ (tgt := 67) (a := x2.toInt) d_Scheme_takeVote_60 (by decide) rfl (fun b9 => ?_) (fun b9 => ?_)
          · refine mv_iconst (v := 2) d_Scheme_takeVote_67 (by decide) ?_
            refine mv_i2b (v := 2) d_Scheme_takeVote_68 (by decide) ?_
            refine tr_bastK tm_okF I0 t_a4 (by decide) (Or.inl (by decide)) d_Scheme_takeVote_69 (vp_in_iff.mpr (by omega)) (fun M10 I11 K12 => ?_)
            refine mv_iload_n d_Scheme_takeVote_70 rfl rfl ?_
            have := mz_hi x2
            refine mv_if_eqZ (tgt := 87) (a := x2.toInt) d_Scheme_takeVote_71 (by decide) rfl (fun b13 => ?_) (fun b13 => absurd b13 (by omega))
            refine mv_aload_n d_Scheme_takeVote_87 rfl rfl ?_
            refine mv_dup d_Scheme_takeVote_88 rfl ?_
            obtain ⟨v15, q14⟩ := tm_atI I11 h_o0 (k := 9) rfl
            refine tr_getK q14 d_Scheme_takeVote_89 f_Scheme_44_11 ?_
            refine mv_iconst (v := 1) d_Scheme_takeVote_92 (by decide) ?_
            refine mv_iadd d_Scheme_takeVote_93 ?_
            refine tr_putK tm_okF I11 h_o0 (k := 9) rfl ⟨_, rfl⟩ (Or.inl (by decide)) d_Scheme_takeVote_94 p_Scheme_44_11 rfl rfl (fun M16 I17 q18 K19 => ?_)
            exact mv_vret d_Scheme_takeVote_97 rfl ⟨_, I17, rfl⟩
          · refine mv_iconst (v := 1) d_Scheme_takeVote_63 (by decide) ?_
            refine mv_goto (tgt := 68) d_Scheme_takeVote_64 (by decide) ?_
            refine mv_i2b (v := 1) d_Scheme_takeVote_68 (by decide) ?_
            refine tr_bastK tm_okF I0 t_a4 (by decide) (Or.inl (by decide)) d_Scheme_takeVote_69 (vp_in_iff.mpr (by omega)) (fun M20 I21 K22 => ?_)
            refine mv_iload_n d_Scheme_takeVote_70 rfl rfl ?_
            have := mz_hi x2
            refine mv_if_eqZ (tgt := 87) (a := x2.toInt) d_Scheme_takeVote_71 (by decide) rfl (fun b23 => ?_) (fun b23 => ?_)
            · refine mv_aload_n d_Scheme_takeVote_87 rfl rfl ?_
              refine mv_dup d_Scheme_takeVote_88 rfl ?_
              obtain ⟨v25, q24⟩ := tm_atI I21 h_o0 (k := 9) rfl
              refine tr_getK q24 d_Scheme_takeVote_89 f_Scheme_44_11 ?_
              refine mv_iconst (v := 1) d_Scheme_takeVote_92 (by decide) ?_
              refine mv_iadd d_Scheme_takeVote_93 ?_
              refine tr_putK tm_okF I21 h_o0 (k := 9) rfl ⟨_, rfl⟩ (Or.inl (by decide)) d_Scheme_takeVote_94 p_Scheme_44_11 rfl rfl (fun M26 I27 q28 K29 => ?_)
              exact mv_vret d_Scheme_takeVote_97 rfl ⟨_, I27, rfl⟩
            · refine mv_aload_n d_Scheme_takeVote_74 rfl rfl ?_
              refine mv_dup d_Scheme_takeVote_75 rfl ?_
              obtain ⟨v31, q30⟩ := tm_atI I21 h_o0 (k := 8) rfl
              refine tr_getK q30 d_Scheme_takeVote_76 f_Scheme_41_11 ?_
              refine mv_iconst (v := 1) d_Scheme_takeVote_79 (by decide) ?_
              refine mv_iadd d_Scheme_takeVote_80 ?_
              refine tr_putK tm_okF I21 h_o0 (k := 8) rfl ⟨_, rfl⟩ (Or.inl (by decide)) d_Scheme_takeVote_81 p_Scheme_41_11 rfl rfl (fun M32 I33 q34 K35 => ?_)
              refine mv_goto (tgt := 97) d_Scheme_takeVote_84 (by decide) ?_
              exact mv_vret d_Scheme_takeVote_97 rfl ⟨_, I33, rfl⟩
        · refine mv_aload_n d_Scheme_takeVote_44 rfl rfl ?_
          refine mv_dup d_Scheme_takeVote_45 rfl ?_
          obtain ⟨v37, q36⟩ := tm_atI I0 h_o0 (k := 9) rfl
          refine tr_getK q36 d_Scheme_takeVote_46 f_Scheme_44_11 ?_
          refine mv_iconst (v := 1) d_Scheme_takeVote_49 (by decide) ?_
          refine mv_isub d_Scheme_takeVote_50 ?_
          refine tr_putK tm_okF I0 h_o0 (k := 9) rfl ⟨_, rfl⟩ (Or.inl (by decide)) d_Scheme_takeVote_51 p_Scheme_44_11 rfl rfl (fun M38 I39 q40 K41 => ?_)
          refine mv_aload_n d_Scheme_takeVote_54 rfl rfl ?_
          refine tr_getK (k := 11) (K41 _ 11 11 _ rfl q3) d_Scheme_takeVote_55 f_Scheme_19_11 ?_
          refine mv_iload_n d_Scheme_takeVote_58 rfl rfl ?_
          refine mv_iload_n d_Scheme_takeVote_59 rfl rfl ?_
          have := mz_hi x2
          refine mv_if_eqZ (tgt := 67) (a := x2.toInt) d_Scheme_takeVote_60 (by decide) rfl (fun b42 => ?_) (fun b42 => ?_)
          · refine mv_iconst (v := 2) d_Scheme_takeVote_67 (by decide) ?_
            refine mv_i2b (v := 2) d_Scheme_takeVote_68 (by decide) ?_
            refine tr_bastK tm_okF I39 t_a4 (by decide) (Or.inl (by decide)) d_Scheme_takeVote_69 (vp_in_iff.mpr (by omega)) (fun M43 I44 K45 => ?_)
            refine mv_iload_n d_Scheme_takeVote_70 rfl rfl ?_
            have := mz_hi x2
            refine mv_if_eqZ (tgt := 87) (a := x2.toInt) d_Scheme_takeVote_71 (by decide) rfl (fun b46 => ?_) (fun b46 => absurd b46 (by omega))
            refine mv_aload_n d_Scheme_takeVote_87 rfl rfl ?_
            refine mv_dup d_Scheme_takeVote_88 rfl ?_
            refine tr_getK (k := 9) (K45 _ 11 9 _ q40) d_Scheme_takeVote_89 f_Scheme_44_11 ?_
            refine mv_iconst (v := 1) d_Scheme_takeVote_92 (by decide) ?_
            refine mv_iadd d_Scheme_takeVote_93 ?_
            refine tr_putK tm_okF I44 h_o0 (k := 9) rfl ⟨_, rfl⟩ (Or.inl (by decide)) d_Scheme_takeVote_94 p_Scheme_44_11 rfl rfl (fun M47 I48 q49 K50 => ?_)
            exact mv_vret d_Scheme_takeVote_97 rfl ⟨_, I48, rfl⟩
          · refine mv_iconst (v := 1) d_Scheme_takeVote_63 (by decide) ?_
            refine mv_goto (tgt := 68) d_Scheme_takeVote_64 (by decide) ?_
            refine mv_i2b (v := 1) d_Scheme_takeVote_68 (by decide) ?_
            refine tr_bastK tm_okF I39 t_a4 (by decide) (Or.inl (by decide)) d_Scheme_takeVote_69 (vp_in_iff.mpr (by omega)) (fun M51 I52 K53 => ?_)
            refine mv_iload_n d_Scheme_takeVote_70 rfl rfl ?_
            have := mz_hi x2
            refine mv_if_eqZ (tgt := 87) (a := x2.toInt) d_Scheme_takeVote_71 (by decide) rfl (fun b54 => ?_) (fun b54 => ?_)
            · refine mv_aload_n d_Scheme_takeVote_87 rfl rfl ?_
              refine mv_dup d_Scheme_takeVote_88 rfl ?_
              refine tr_getK (k := 9) (K53 _ 11 9 _ q40) d_Scheme_takeVote_89 f_Scheme_44_11 ?_
              refine mv_iconst (v := 1) d_Scheme_takeVote_92 (by decide) ?_
              refine mv_iadd d_Scheme_takeVote_93 ?_
              refine tr_putK tm_okF I52 h_o0 (k := 9) rfl ⟨_, rfl⟩ (Or.inl (by decide)) d_Scheme_takeVote_94 p_Scheme_44_11 rfl rfl (fun M55 I56 q57 K58 => ?_)
              exact mv_vret d_Scheme_takeVote_97 rfl ⟨_, I56, rfl⟩
            · refine mv_aload_n d_Scheme_takeVote_74 rfl rfl ?_
              refine mv_dup d_Scheme_takeVote_75 rfl ?_
              obtain ⟨v60, q59⟩ := tm_atI I52 h_o0 (k := 8) rfl
              refine tr_getK q59 d_Scheme_takeVote_76 f_Scheme_41_11 ?_
              refine mv_iconst (v := 1) d_Scheme_takeVote_79 (by decide) ?_
              refine mv_iadd d_Scheme_takeVote_80 ?_
              refine tr_putK tm_okF I52 h_o0 (k := 8) rfl ⟨_, rfl⟩ (Or.inl (by decide)) d_Scheme_takeVote_81 p_Scheme_41_11 rfl rfl (fun M61 I62 q63 K64 => ?_)
              refine mv_goto (tgt := 97) d_Scheme_takeVote_84 (by decide) ?_
              exact mv_vret d_Scheme_takeVote_97 rfl ⟨_, I62, rfl⟩
      · refine mv_aload_n d_Scheme_takeVote_21 rfl rfl ?_
        refine mv_dup d_Scheme_takeVote_22 rfl ?_
        obtain ⟨v66, q65⟩ := tm_atI I0 h_o0 (k := 8) rfl
        refine tr_getK q65 d_Scheme_takeVote_23 f_Scheme_41_11 ?_
        refine mv_iconst (v := 1) d_Scheme_takeVote_26 (by decide) ?_
        refine mv_isub d_Scheme_takeVote_27 ?_
        refine tr_putK tm_okF I0 h_o0 (k := 8) rfl ⟨_, rfl⟩ (Or.inl (by decide)) d_Scheme_takeVote_28 p_Scheme_41_11 rfl rfl (fun M67 I68 q69 K70 => ?_)
        refine mv_goto (tgt := 54) d_Scheme_takeVote_31 (by decide) ?_
        refine mv_aload_n d_Scheme_takeVote_54 rfl rfl ?_
        refine tr_getK (k := 11) (K70 _ 11 11 _ rfl q3) d_Scheme_takeVote_55 f_Scheme_19_11 ?_
        refine mv_iload_n d_Scheme_takeVote_58 rfl rfl ?_
        refine mv_iload_n d_Scheme_takeVote_59 rfl rfl ?_
        have := mz_hi x2
        refine mv_if_eqZ (tgt := 67) (a := x2.toInt) d_Scheme_takeVote_60 (by decide) rfl (fun b71 => ?_) (fun b71 => ?_)
        · refine mv_iconst (v := 2) d_Scheme_takeVote_67 (by decide) ?_
          refine mv_i2b (v := 2) d_Scheme_takeVote_68 (by decide) ?_
          refine tr_bastK tm_okF I68 t_a4 (by decide) (Or.inl (by decide)) d_Scheme_takeVote_69 (vp_in_iff.mpr (by omega)) (fun M72 I73 K74 => ?_)
          refine mv_iload_n d_Scheme_takeVote_70 rfl rfl ?_
          have := mz_hi x2
          refine mv_if_eqZ (tgt := 87) (a := x2.toInt) d_Scheme_takeVote_71 (by decide) rfl (fun b75 => ?_) (fun b75 => absurd b75 (by omega))
          refine mv_aload_n d_Scheme_takeVote_87 rfl rfl ?_
          refine mv_dup d_Scheme_takeVote_88 rfl ?_
          obtain ⟨v77, q76⟩ := tm_atI I73 h_o0 (k := 9) rfl
          refine tr_getK q76 d_Scheme_takeVote_89 f_Scheme_44_11 ?_
          refine mv_iconst (v := 1) d_Scheme_takeVote_92 (by decide) ?_
          refine mv_iadd d_Scheme_takeVote_93 ?_
          refine tr_putK tm_okF I73 h_o0 (k := 9) rfl ⟨_, rfl⟩ (Or.inl (by decide)) d_Scheme_takeVote_94 p_Scheme_44_11 rfl rfl (fun M78 I79 q80 K81 => ?_)
          exact mv_vret d_Scheme_takeVote_97 rfl ⟨_, I79, rfl⟩
        · refine mv_iconst (v := 1) d_Scheme_takeVote_63 (by decide) ?_
          refine mv_goto (tgt := 68) d_Scheme_takeVote_64 (by decide) ?_
          refine mv_i2b (v := 1) d_Scheme_takeVote_68 (by decide) ?_
          refine tr_bastK tm_okF I68 t_a4 (by decide) (Or.inl (by decide)) d_Scheme_takeVote_69 (vp_in_iff.mpr (by omega)) (fun M82 I83 K84 => ?_)
          refine mv_iload_n d_Scheme_takeVote_70 rfl rfl ?_
          have := mz_hi x2
          refine mv_if_eqZ (tgt := 87) (a := x2.toInt) d_Scheme_takeVote_71 (by decide) rfl (fun b85 => ?_) (fun b85 => ?_)
          · refine mv_aload_n d_Scheme_takeVote_87 rfl rfl ?_
            refine mv_dup d_Scheme_takeVote_88 rfl ?_
            obtain ⟨v87, q86⟩ := tm_atI I83 h_o0 (k := 9) rfl
            refine tr_getK q86 d_Scheme_takeVote_89 f_Scheme_44_11 ?_
            refine mv_iconst (v := 1) d_Scheme_takeVote_92 (by decide) ?_
            refine mv_iadd d_Scheme_takeVote_93 ?_
            refine tr_putK tm_okF I83 h_o0 (k := 9) rfl ⟨_, rfl⟩ (Or.inl (by decide)) d_Scheme_takeVote_94 p_Scheme_44_11 rfl rfl (fun M88 I89 q90 K91 => ?_)
            exact mv_vret d_Scheme_takeVote_97 rfl ⟨_, I89, rfl⟩
          · refine mv_aload_n d_Scheme_takeVote_74 rfl rfl ?_
            refine mv_dup d_Scheme_takeVote_75 rfl ?_
            refine tr_getK (k := 8) (K84 _ 11 8 _ q69) d_Scheme_takeVote_76 f_Scheme_41_11 ?_
            refine mv_iconst (v := 1) d_Scheme_takeVote_79 (by decide) ?_
            refine mv_iadd d_Scheme_takeVote_80 ?_
            refine tr_putK tm_okF I83 h_o0 (k := 8) rfl ⟨_, rfl⟩ (Or.inl (by decide)) d_Scheme_takeVote_81 p_Scheme_41_11 rfl rfl (fun M92 I93 q94 K95 => ?_)
            refine mv_goto (tgt := 97) d_Scheme_takeVote_84 (by decide) ?_
            exact mv_vret d_Scheme_takeVote_97 rfl ⟨_, I93, rfl⟩
    · exact mv_vret d_Scheme_takeVote_10 rfl ⟨_, I0, rfl⟩
theorem lV_TrustDesk_298 : mj_lV "TrustDesk" 298 kY_Scheme_takeVote 2 := ⟨⟨(mj_in1 (List.mem_of_getElem? (i := 1045) (by decide +kernel)) rfl), (mj_in1 (List.mem_of_getElem? (i := 25) (by decide +kernel)) rfl), (mj_in1 (List.mem_of_getElem? (i := 1048) (by decide +kernel)) rfl), by decide, rfl, by decide⟩, (mj_in1 (List.mem_of_getElem? (i := 1046) (by decide +kernel)) rfl), (mj_in1 (List.mem_of_getElem? (i := 1047) (by decide +kernel)) rfl)⟩
theorem d_TrustDesk_vote_46 : decode kY_TrustDesk_vote.2.1 46 = .ok (.iconst 1, 1) := by decide +kernel
theorem d_TrustDesk_vote_47 : decode kY_TrustDesk_vote.2.1 47 = .ok (.ireturn, 1) := by decide +kernel
def w_TrustDesk_vote : List Nat := [1108, 1109, 1161]
theorem tc_TrustDesk_vote {g : mj_G} {l : Launch} {d : Nat} {T0 : tm_H} {M0 : mj_M} {n0 x9 : Nat} {o0 : Nat} {x1 : Int32} {x2 : Int32} {x3 : Int32} (h_o0 : T0 o0 = some (0, 12, 0)) (I0 : tm_I tm_FT (tm_in w_TrustDesk_vote) x9 T0 M0 n0 T0 M0 n0) : mj_Met g l kY_TrustDesk_vote (d + 5) [.ref o0, .int x1, .int x2, .int x3] M0 n0 0 0 (tm_Q tm_FT (tm_in w_TrustDesk_vote) x9 T0 M0 n0 (fun r _ _ => ∃ v : Int32, r = some (.int v) ∧ 0 ≤ v.toInt ∧ v.toInt ≤ 1)) := by
  refine mj_enter (by decide) (Nat.le_of_ble_eq_true rfl) ?_
  refine mv_aload_n d_TrustDesk_vote_0 rfl rfl ?_
  refine mv_iload_n d_TrustDesk_vote_1 rfl rfl ?_
  obtain ⟨_, b7, -⟩ := I0.1 _ _ h_o0
  refine mv_callV (kc' := 0) (ks' := 0) (As := [.int x1]) (st9 := [.int x1, .ref o0]) d_TrustDesk_vote_2 lV_TrustDesk_280 b7 rfl (tc_TrustDesk_schemeAt (d := (d + 1)) (x9 := x9) (o0 := o0) (x1 := x1) h_o0 I0.start) rfl (Nat.le_of_ble_eq_true rfl) (Nat.le_of_ble_eq_true rfl) (Nat.le_of_ble_eq_true rfl) (hst := rfl) (fun b1r M2 n3 b1 => ?_)
  obtain ⟨T4, J5, b9⟩ := b1
  have I6 := I0.call J5 (tm_sub (by decide)) (Or.inl rfl)
  have t10 := J5.up h_o0
  rcases b9 with rfl | ⟨a8, rfl, t_a8⟩
  · refine mv_astoreN (lv' := [(4, .null), (0, .ref o0), (1, .int x1), (2, .int x2), (3, .int x3)]) d_TrustDesk_vote_5 (by decide) rfl ?_
    refine mv_aloadN d_TrustDesk_vote_7 rfl ?_
    refine mv_ifnullN (tgt := 37) d_TrustDesk_vote_9 (by decide) ?_
    refine mv_iconst (v := 0) d_TrustDesk_vote_37 (by decide) ?_
    exact mv_iret d_TrustDesk_vote_38 rfl (by decide) ⟨_, I6, _, rfl, by decide, by decide⟩
  · refine mv_astore (lv' := [(4, .ref a8), (0, .ref o0), (1, .int x1), (2, .int x2), (3, .int x3)]) d_TrustDesk_vote_5 (by decide) rfl ?_
    refine mv_aload d_TrustDesk_vote_7 rfl ?_
    refine mv_ifnull d_TrustDesk_vote_9 ?_
    refine mv_iload_n d_TrustDesk_vote_12 rfl rfl ?_
    refine mv_callS (kc' := 0) (ks' := 0) (As := [.int x2]) (st9 := [.int x2]) d_TrustDesk_vote_13 lS_TrustDesk_261 (tc_TrustDesk_isPerson (d := (d + 4)) (x9 := x9) (x1 := x2)  I6.start) rfl (Nat.le_of_ble_eq_true rfl) (Nat.le_of_ble_eq_true rfl) (Nat.le_of_ble_eq_true rfl) (hst := rfl) (fun b11r M12 n13 b11 => ?_)
    obtain ⟨T14, J15, v17, rfl, b18, b19⟩ := b11
    have I16 := I6.call J15 (tm_sub (by decide)) (Or.inl rfl)
    have t20 := J15.up t_a8
    have t21 := J15.up t10
    have := mz_hi v17
    refine mv_if_eqZ (tgt := 37) (a := v17.toInt) d_TrustDesk_vote_16 (by decide) rfl (fun b22 => ?_) (fun b22 => ?_)
    · refine mv_iconst (v := 0) d_TrustDesk_vote_37 (by decide) ?_
      exact mv_iret d_TrustDesk_vote_38 rfl (by decide) ⟨_, I16, _, rfl, by decide, by decide⟩
    · refine mv_aload d_TrustDesk_vote_19 rfl ?_
      obtain ⟨v24, q23⟩ := tm_atI I16 t20 (k := 5) rfl
      refine tr_getK q23 d_TrustDesk_vote_21 f_TrustDesk_284_11 ?_
      have := mz_hi v24
      refine mv_if_neZ (tgt := 37) (a := v24.toInt) d_TrustDesk_vote_24 (by decide) rfl (fun b25 => ?_) (fun b25 => ?_)
      · refine mv_iconst (v := 0) d_TrustDesk_vote_37 (by decide) ?_
        exact mv_iret d_TrustDesk_vote_38 rfl (by decide) ⟨_, I16, _, rfl, by decide, by decide⟩
      · refine mv_aload_n d_TrustDesk_vote_27 rfl rfl ?_
        refine mv_aload d_TrustDesk_vote_28 rfl ?_
        refine mv_iload_n d_TrustDesk_vote_30 rfl rfl ?_
        obtain ⟨_, b32, -⟩ := I16.1 _ _ t21
        refine mv_callV (kc' := 0) (ks' := 0) (As := [.ref a8, .int x2]) (st9 := [.int x2, .ref a8, .ref o0]) d_TrustDesk_vote_31 lV_TrustDesk_294 b32 rfl (tc_TrustDesk_maySpeak (d := d) (x9 := x9) (o0 := o0) (o1 := a8) (x2 := x2) t21 t20 I16.start) rfl (Nat.le_of_ble_eq_true rfl) (Nat.le_of_ble_eq_true rfl) (Nat.le_of_ble_eq_true rfl) (hst := rfl) (fun b26r M27 n28 b26 => ?_)
        obtain ⟨T29, J30, v33, rfl, b34, b35⟩ := b26
        have I31 := I16.call J30 (tm_sub (by decide)) (Or.inl rfl)
        have t36 := J30.up t20
        have t37 := J30.up t21
        have q38 := J30.keep t20 (by decide) q23
        have := mz_hi v33
        refine mv_if_neZ (tgt := 39) (a := v33.toInt) d_TrustDesk_vote_34 (by decide) rfl (fun b39 => ?_) (fun b39 => ?_)
        · refine mv_aload d_TrustDesk_vote_39 rfl ?_
          refine mv_iload_n d_TrustDesk_vote_41 rfl rfl ?_
          refine mv_iload_n d_TrustDesk_vote_42 rfl rfl ?_
          obtain ⟨_, b46, -⟩ := I31.1 _ _ t36
          refine mv_callV (kc' := 0) (ks' := 0) (As := [.int x2, .int x3]) (st9 := [.int x3, .int x2, .ref a8]) d_TrustDesk_vote_43 lV_TrustDesk_298 b46 rfl (tc_Scheme_takeVote (d := (d + 4)) (x9 := x9) (o0 := a8) (x1 := x2) (x2 := x3) t36 I31.start) rfl (Nat.le_of_ble_eq_true rfl) (Nat.le_of_ble_eq_true rfl) (Nat.le_of_ble_eq_true rfl) (hst := rfl) (fun b40r M41 n42 b40 => ?_)
          obtain ⟨T43, J44, rfl⟩ := b40
          have I45 := I31.call J44 (tm_sub (by decide)) (Or.inl rfl)
          have t47 := J44.up t36
          have t48 := J44.up t37
          have q49 := J44.keep t36 (by decide) q38
          refine mv_iconst (v := 1) d_TrustDesk_vote_46 (by decide) ?_
          exact mv_iret d_TrustDesk_vote_47 rfl (by decide) ⟨_, I45, _, rfl, by decide, by decide⟩
        · refine mv_iconst (v := 0) d_TrustDesk_vote_37 (by decide) ?_
          exact mv_iret d_TrustDesk_vote_38 rfl (by decide) ⟨_, I31, _, rfl, by decide, by decide⟩
abbrev kY_TrustDesk_why : mj_Y := (⟨"TrustDesk", "why", "(IIII)I"⟩, prog_1_method_45_code, 6, (Option.some Jvm.ClassFile.FieldType.int))
theorem d_TrustDesk_why_0 : decode kY_TrustDesk_why.2.1 0 = .ok (.aload_n 0, 1) := by decide +kernel
theorem d_TrustDesk_why_1 : decode kY_TrustDesk_why.2.1 1 = .ok (.iload_n 1, 1) := by decide +kernel
theorem d_TrustDesk_why_2 : decode kY_TrustDesk_why.2.1 2 = .ok (.iload_n 2, 1) := by decide +kernel
theorem d_TrustDesk_why_3 : decode kY_TrustDesk_why.2.1 3 = .ok (.invokevirtual 465, 3) := by decide +kernel
theorem d_TrustDesk_why_6 : decode kY_TrustDesk_why.2.1 6 = .ok (.astore 5, 2) := by decide +kernel
theorem d_TrustDesk_why_8 : decode kY_TrustDesk_why.2.1 8 = .ok (.aload 5, 2) := by decide +kernel
theorem d_TrustDesk_why_10 : decode kY_TrustDesk_why.2.1 10 = .ok (.ifnull 19, 3) := by decide +kernel
theorem d_TrustDesk_why_29 : decode kY_TrustDesk_why.2.1 29 = .ok (.iconst (-1), 1) := by decide +kernel
theorem d_TrustDesk_why_30 : decode kY_TrustDesk_why.2.1 30 = .ok (.ireturn, 1) := by decide +kernel
theorem d_TrustDesk_why_13 : decode kY_TrustDesk_why.2.1 13 = .ok (.iload_n 3, 1) := by decide +kernel
theorem d_TrustDesk_why_14 : decode kY_TrustDesk_why.2.1 14 = .ok (.invokestatic 70, 3) := by decide +kernel
theorem d_TrustDesk_why_17 : decode kY_TrustDesk_why.2.1 17 = .ok (.ifCond .eq 12, 3) := by decide +kernel
theorem d_TrustDesk_why_20 : decode kY_TrustDesk_why.2.1 20 = .ok (.aload_n 0, 1) := by decide +kernel
theorem d_TrustDesk_why_21 : decode kY_TrustDesk_why.2.1 21 = .ok (.iload 4, 2) := by decide +kernel
theorem d_TrustDesk_why_23 : decode kY_TrustDesk_why.2.1 23 = .ok (.invokevirtual 81, 3) := by decide +kernel
theorem d_TrustDesk_why_26 : decode kY_TrustDesk_why.2.1 26 = .ok (.ifCond .ne 5, 3) := by decide +kernel
theorem d_TrustDesk_why_31 : decode kY_TrustDesk_why.2.1 31 = .ok (.aload_n 0, 1) := by decide +kernel
theorem d_TrustDesk_why_32 : decode kY_TrustDesk_why.2.1 32 = .ok (.getfield 26, 3) := by decide +kernel
theorem d_TrustDesk_why_35 : decode kY_TrustDesk_why.2.1 35 = .ok (.aload_n 0, 1) := by decide +kernel
theorem d_TrustDesk_why_36 : decode kY_TrustDesk_why.2.1 36 = .ok (.getfield 10, 3) := by decide +kernel
theorem d_TrustDesk_why_39 : decode kY_TrustDesk_why.2.1 39 = .ok (.iload_n 3, 1) := by decide +kernel
theorem d_TrustDesk_why_40 : decode kY_TrustDesk_why.2.1 40 = .ok (.iload 4, 2) := by decide +kernel
theorem d_TrustDesk_why_42 : decode kY_TrustDesk_why.2.1 42 = .ok (.invokevirtual 154, 3) := by decide +kernel
theorem d_TrustDesk_why_45 : decode kY_TrustDesk_why.2.1 45 = .ok (.aload_n 0, 1) := by decide +kernel
theorem d_TrustDesk_why_46 : decode kY_TrustDesk_why.2.1 46 = .ok (.getfield 26, 3) := by decide +kernel
theorem d_TrustDesk_why_49 : decode kY_TrustDesk_why.2.1 49 = .ok (.aload_n 0, 1) := by decide +kernel
theorem d_TrustDesk_why_50 : decode kY_TrustDesk_why.2.1 50 = .ok (.iload_n 1, 1) := by decide +kernel
theorem d_TrustDesk_why_51 : decode kY_TrustDesk_why.2.1 51 = .ok (.invokevirtual 257, 3) := by decide +kernel
theorem d_TrustDesk_why_54 : decode kY_TrustDesk_why.2.1 54 = .ok (.invokevirtual 200, 3) := by decide +kernel
theorem d_TrustDesk_why_57 : decode kY_TrustDesk_why.2.1 57 = .ok (.aload_n 0, 1) := by decide +kernel
theorem d_TrustDesk_why_58 : decode kY_TrustDesk_why.2.1 58 = .ok (.getfield 26, 3) := by decide +kernel
theorem d_TrustDesk_why_61 : decode kY_TrustDesk_why.2.1 61 = .ok (.aload 5, 2) := by decide +kernel
theorem d_TrustDesk_why_63 : decode kY_TrustDesk_why.2.1 63 = .ok (.getfield 204, 3) := by decide +kernel
theorem d_TrustDesk_why_66 : decode kY_TrustDesk_why.2.1 66 = .ok (.getfield 208, 3) := by decide +kernel
theorem d_TrustDesk_why_69 : decode kY_TrustDesk_why.2.1 69 = .ok (.invokevirtual 214, 3) := by decide +kernel
theorem d_TrustDesk_why_72 : decode kY_TrustDesk_why.2.1 72 = .ok (.pop2, 1) := by decide +kernel
theorem d_TrustDesk_why_73 : decode kY_TrustDesk_why.2.1 73 = .ok (.aload_n 0, 1) := by decide +kernel
theorem d_TrustDesk_why_74 : decode kY_TrustDesk_why.2.1 74 = .ok (.getfield 26, 3) := by decide +kernel
theorem d_TrustDesk_why_77 : decode kY_TrustDesk_why.2.1 77 = .ok (.getfield 474, 3) := by decide +kernel
theorem f_TrustDesk_474_10 : mj_fl "TrustDesk" 474 10 1 := ⟨kR_Reckoner, kF_Reckoner, 5, "TrustDesk$Reckoner", rfl, kg_10, by decide, (mj_in1 (List.mem_of_getElem? (i := 139) (by decide +kernel)) rfl), Or.inl rfl⟩
theorem d_TrustDesk_why_80 : decode kY_TrustDesk_why.2.1 80 = .ok (.ireturn, 1) := by decide +kernel
def w_TrustDesk_why : List Nat := [1001, 1003, 1004, 1050, 1052]
theorem tc_TrustDesk_why {g : mj_G} {l : Launch} {d : Nat} {T0 : tm_H} {M0 : mj_M} {n0 x9 : Nat} {o0 : Nat} {x1 : Int32} {x2 : Int32} {x3 : Int32} {x4 : Int32} (h_o0 : T0 o0 = some (0, 12, 0)) (I0 : tm_I tm_FT (tm_in w_TrustDesk_why) x9 T0 M0 n0 T0 M0 n0) : mj_Met g l kY_TrustDesk_why (d + 5) [.ref o0, .int x1, .int x2, .int x3, .int x4] M0 n0 0 0 (tm_Q tm_FT (tm_in w_TrustDesk_why) x9 T0 M0 n0 (fun r _ _ => ∃ v : Int32, r = some (.int v))) := by
  refine mj_enter (by decide) (Nat.le_of_ble_eq_true rfl) ?_
  refine mv_aload_n d_TrustDesk_why_0 rfl rfl ?_
  refine mv_iload_n d_TrustDesk_why_1 rfl rfl ?_
  refine mv_iload_n d_TrustDesk_why_2 rfl rfl ?_
  obtain ⟨_, b7, -⟩ := I0.1 _ _ h_o0
  refine mv_callV (kc' := 0) (ks' := 0) (As := [.int x1, .int x2]) (st9 := [.int x2, .int x1, .ref o0]) d_TrustDesk_why_3 lV_TrustDesk_465 b7 rfl (tc_TrustDesk_endAt (d := d) (x9 := x9) (o0 := o0) (x1 := x1) (x2 := x2) h_o0 I0.start) rfl (Nat.le_of_ble_eq_true rfl) (Nat.le_of_ble_eq_true rfl) (Nat.le_of_ble_eq_true rfl) (hst := rfl) (fun b1r M2 n3 b1 => ?_)
  obtain ⟨T4, J5, b9⟩ := b1
  have I6 := I0.call J5 (tm_sub (by decide)) (Or.inl rfl)
  have t10 := J5.up h_o0
  rcases b9 with rfl | ⟨a8, rfl, t_a8⟩
  · refine mv_astoreN (lv' := [(5, .null), (0, .ref o0), (1, .int x1), (2, .int x2), (3, .int x3), (4, .int x4)]) d_TrustDesk_why_6 (by decide) rfl ?_
    refine mv_aloadN d_TrustDesk_why_8 rfl ?_
    refine mv_ifnullN (tgt := 29) d_TrustDesk_why_10 (by decide) ?_
    refine mv_iconst (v := (-1)) d_TrustDesk_why_29 (by decide) ?_
    exact mv_iret d_TrustDesk_why_30 rfl (by first | rfl | decide) ⟨_, I6, _, rfl⟩
  · refine mv_astore (lv' := [(5, .ref a8), (0, .ref o0), (1, .int x1), (2, .int x2), (3, .int x3), (4, .int x4)]) d_TrustDesk_why_6 (by decide) rfl ?_
    refine mv_aload d_TrustDesk_why_8 rfl ?_
    refine mv_ifnull d_TrustDesk_why_10 ?_
    refine mv_iload_n d_TrustDesk_why_13 rfl rfl ?_
    refine mv_callS (kc' := 0) (ks' := 0) (As := [.int x3]) (st9 := [.int x3]) d_TrustDesk_why_14 lS_TrustDesk_70 (tc_TrustDesk_isYear (d := (d + 4)) (x9 := x9) (x1 := x3)  I6.start) rfl (Nat.le_of_ble_eq_true rfl) (Nat.le_of_ble_eq_true rfl) (Nat.le_of_ble_eq_true rfl) (hst := rfl) (fun b11r M12 n13 b11 => ?_)
    obtain ⟨T14, J15, v17, rfl, b18, b19⟩ := b11
    have I16 := I6.call J15 (tm_sub (by decide)) (Or.inl rfl)
    have t20 := J15.up t_a8
    have t21 := J15.up t10
    have := mz_hi v17
    refine mv_if_eqZ (tgt := 29) (a := v17.toInt) d_TrustDesk_why_17 (by decide) rfl (fun b22 => ?_) (fun b22 => ?_)
    · refine mv_iconst (v := (-1)) d_TrustDesk_why_29 (by decide) ?_
      exact mv_iret d_TrustDesk_why_30 rfl (by first | rfl | decide) ⟨_, I16, _, rfl⟩
    · refine mv_aload_n d_TrustDesk_why_20 rfl rfl ?_
      refine mv_iload d_TrustDesk_why_21 rfl ?_
      obtain ⟨_, b29, -⟩ := I16.1 _ _ t21
      refine mv_callV (kc' := 0) (ks' := 0) (As := [.int x4]) (st9 := [.int x4, .ref o0]) d_TrustDesk_why_23 lV_TrustDesk_81 b29 rfl (tc_TrustDesk_isKnown (d := (d + 4)) (x9 := x9) (o0 := o0) (x1 := x4) t21 I16.start) rfl (Nat.le_of_ble_eq_true rfl) (Nat.le_of_ble_eq_true rfl) (Nat.le_of_ble_eq_true rfl) (hst := rfl) (fun b23r M24 n25 b23 => ?_)
      obtain ⟨T26, J27, v30, rfl, b31, b32⟩ := b23
      have I28 := I16.call J27 (tm_sub (by decide)) (Or.inl rfl)
      have t33 := J27.up t20
      have t34 := J27.up t21
      have := mz_hi v30
      refine mv_if_neZ (tgt := 31) (a := v30.toInt) d_TrustDesk_why_26 (by decide) rfl (fun b35 => ?_) (fun b35 => ?_)
      · refine mv_aload_n d_TrustDesk_why_31 rfl rfl ?_
        obtain ⟨a37, q36, t_a37⟩ := tm_atR I28 t34 (k := 2) rfl
        refine tr_getK q36 d_TrustDesk_why_32 f_TrustDesk_26_12 ?_
        refine mv_aload_n d_TrustDesk_why_35 rfl rfl ?_
        obtain ⟨a39, q38, t_a39⟩ := tm_atR I28 t34 (k := 0) rfl
        refine tr_getK q38 d_TrustDesk_why_36 f_TrustDesk_10_12 ?_
        refine mv_iload_n d_TrustDesk_why_39 rfl rfl ?_
        refine mv_iload d_TrustDesk_why_40 rfl ?_
        obtain ⟨_, b46, -⟩ := I28.1 _ _ t_a37
        refine mv_callV (kc' := 0) (ks' := 0) (As := [.ref a39, .int x3, .int x4]) (st9 := [.int x4, .int x3, .ref a39, .ref a37]) d_TrustDesk_why_42 lV_TrustDesk_154 b46 rfl (tc_Reckoner_know (d := (d + 3)) (x9 := x9) (o0 := a37) (o1 := a39) (x2 := x3) (x3 := x4) t_a37 t_a39 I28.start) rfl (Nat.le_of_ble_eq_true rfl) (Nat.le_of_ble_eq_true rfl) (Nat.le_of_ble_eq_true rfl) (hst := rfl) (fun b40r M41 n42 b40 => ?_)
        obtain ⟨T43, J44, rfl⟩ := b40
        have I45 := I28.call J44 (tm_sub (by decide)) (Or.inl rfl)
        have t47 := J44.up t33
        have t48 := J44.up t34
        have q49 := J44.keep t34 (by decide) q36
        have t50 := J44.up t_a37
        have q51 := J44.keep t34 (by decide) q38
        have t52 := J44.up t_a39
        refine mv_aload_n d_TrustDesk_why_45 rfl rfl ?_
        refine tr_getK (k := 2) q49 d_TrustDesk_why_46 f_TrustDesk_26_12 ?_
        refine mv_aload_n d_TrustDesk_why_49 rfl rfl ?_
        refine mv_iload_n d_TrustDesk_why_50 rfl rfl ?_
        obtain ⟨_, b59, -⟩ := I45.1 _ _ t48
        refine mv_callV (kc' := 0) (ks' := 0) (As := [.int x1]) (st9 := [.int x1, .ref o0, .ref a37]) d_TrustDesk_why_51 lV_TrustDesk_257 b59 rfl (tc_TrustDesk_fundAt (d := (d + 1)) (x9 := x9) (o0 := o0) (x1 := x1) t48 I45.start) rfl (Nat.le_of_ble_eq_true rfl) (Nat.le_of_ble_eq_true rfl) (Nat.le_of_ble_eq_true rfl) (hst := rfl) (fun b53r M54 n55 b53 => ?_)
        obtain ⟨T56, J57, b61⟩ := b53
        have I58 := I45.call J57 (tm_sub (by decide)) (Or.inl rfl)
        have t62 := J57.up t47
        have t63 := J57.up t48
        have t64 := J57.up t50
        have q65 := J57.keep t48 (by decide) q49
        have q66 := J57.keep t48 (by decide) q51
        have t67 := J57.up t52
        rcases b61 with rfl | ⟨a60, rfl, t_a60⟩
        · obtain ⟨_, b74, -⟩ := I58.1 _ _ t64
          refine mv_callV (kc' := 0) (ks' := 0) (As := [.null]) (st9 := [.null, .ref a37]) d_TrustDesk_why_54 lV_TrustDesk_200 b74 rfl (tc_Reckoner_knowFund_n1 (d := (d + 4)) (x9 := x9) (o0 := a37) t64 I58.start) rfl (Nat.le_of_ble_eq_true rfl) (Nat.le_of_ble_eq_true rfl) (Nat.le_of_ble_eq_true rfl) (hst := rfl) (fun b68r M69 n70 b68 => ?_)
          obtain ⟨T71, J72, rfl⟩ := b68
          have I73 := I58.call J72 (tm_sub (by decide)) (Or.inl rfl)
          have t75 := J72.up t62
          have t76 := J72.up t63
          have q77 := J72.keep t63 (by decide) q65
          have t78 := J72.up t64
          have q79 := J72.keep t63 (by decide) q66
          have t80 := J72.up t67
          refine mv_aload_n d_TrustDesk_why_57 rfl rfl ?_
          refine tr_getK (k := 2) q77 d_TrustDesk_why_58 f_TrustDesk_26_12 ?_
          refine mv_aload d_TrustDesk_why_61 rfl ?_
          obtain ⟨a82, q81, t_a82⟩ := tm_atR I73 t75 (k := 0) rfl
          refine tr_getK q81 d_TrustDesk_why_63 f_TrustDesk_204_3 ?_
          obtain ⟨a84, q83, t_a84⟩ := tm_atR I73 t_a82 (k := 3) rfl
          refine tr_getK q83 d_TrustDesk_why_66 f_TrustDesk_208_4 ?_
          obtain ⟨_, b91, -⟩ := I73.1 _ _ t78
          refine mv_callV (kc' := 0) (ks' := 0) (As := [.ref a84]) (st9 := [.ref a84, .ref a37]) d_TrustDesk_why_69 lV_TrustDesk_214 b91 rfl (tc_Reckoner_run (d := (d + 1)) (x9 := x9) (o0 := a37) (o1 := a84) t78 t_a84 I73.start) rfl (Nat.le_of_ble_eq_true rfl) (Nat.le_of_ble_eq_true rfl) (Nat.le_of_ble_eq_true rfl) (hst := rfl) (fun b85r M86 n87 b85 => ?_)
          obtain ⟨T88, J89, v92, rfl⟩ := b85
          have I90 := I73.call J89 (tm_sub (by decide)) (Or.inl rfl)
          have t93 := J89.up t75
          have t94 := J89.up t76
          have q95 := J89.keep t76 (by decide) q77
          have t96 := J89.up t78
          have q97 := J89.keep t76 (by decide) q79
          have t98 := J89.up t80
          have q99 := J89.keep t75 (by decide) q81
          have t100 := J89.up t_a82
          have q101 := J89.keep t_a82 (by decide) q83
          have t102 := J89.up t_a84
          refine mv_pop2_2 d_TrustDesk_why_72 rfl ?_
          refine mv_aload_n d_TrustDesk_why_73 rfl rfl ?_
          refine tr_getK (k := 2) q95 d_TrustDesk_why_74 f_TrustDesk_26_12 ?_
          obtain ⟨v104, q103⟩ := tm_atI I90 t96 (k := 1) rfl
          refine tr_getK q103 d_TrustDesk_why_77 f_TrustDesk_474_10 ?_
          exact mv_iret d_TrustDesk_why_80 rfl (by first | rfl | decide) ⟨_, I90, _, rfl⟩
        · obtain ⟨_, b111, -⟩ := I58.1 _ _ t64
          refine mv_callV (kc' := 0) (ks' := 0) (As := [.ref a60]) (st9 := [.ref a60, .ref a37]) d_TrustDesk_why_54 lV_TrustDesk_200 b111 rfl (tc_Reckoner_knowFund (d := (d + 3)) (x9 := x9) (o0 := a37) (o1 := a60) t64 t_a60 I58.start) rfl (Nat.le_of_ble_eq_true rfl) (Nat.le_of_ble_eq_true rfl) (Nat.le_of_ble_eq_true rfl) (hst := rfl) (fun b105r M106 n107 b105 => ?_)
          obtain ⟨T108, J109, rfl⟩ := b105
          have I110 := I58.call J109 (tm_sub (by decide)) (Or.inl rfl)
          have t112 := J109.up t62
          have t113 := J109.up t63
          have q114 := J109.keep t63 (by decide) q65
          have t115 := J109.up t64
          have q116 := J109.keep t63 (by decide) q66
          have t117 := J109.up t67
          refine mv_aload_n d_TrustDesk_why_57 rfl rfl ?_
          refine tr_getK (k := 2) q114 d_TrustDesk_why_58 f_TrustDesk_26_12 ?_
          refine mv_aload d_TrustDesk_why_61 rfl ?_
          obtain ⟨a119, q118, t_a119⟩ := tm_atR I110 t112 (k := 0) rfl
          refine tr_getK q118 d_TrustDesk_why_63 f_TrustDesk_204_3 ?_
          obtain ⟨a121, q120, t_a121⟩ := tm_atR I110 t_a119 (k := 3) rfl
          refine tr_getK q120 d_TrustDesk_why_66 f_TrustDesk_208_4 ?_
          obtain ⟨_, b128, -⟩ := I110.1 _ _ t115
          refine mv_callV (kc' := 0) (ks' := 0) (As := [.ref a121]) (st9 := [.ref a121, .ref a37]) d_TrustDesk_why_69 lV_TrustDesk_214 b128 rfl (tc_Reckoner_run (d := (d + 1)) (x9 := x9) (o0 := a37) (o1 := a121) t115 t_a121 I110.start) rfl (Nat.le_of_ble_eq_true rfl) (Nat.le_of_ble_eq_true rfl) (Nat.le_of_ble_eq_true rfl) (hst := rfl) (fun b122r M123 n124 b122 => ?_)
          obtain ⟨T125, J126, v129, rfl⟩ := b122
          have I127 := I110.call J126 (tm_sub (by decide)) (Or.inl rfl)
          have t130 := J126.up t112
          have t131 := J126.up t113
          have q132 := J126.keep t113 (by decide) q114
          have t133 := J126.up t115
          have q134 := J126.keep t113 (by decide) q116
          have t135 := J126.up t117
          have q136 := J126.keep t112 (by decide) q118
          have t137 := J126.up t_a119
          have q138 := J126.keep t_a119 (by decide) q120
          have t139 := J126.up t_a121
          refine mv_pop2_2 d_TrustDesk_why_72 rfl ?_
          refine mv_aload_n d_TrustDesk_why_73 rfl rfl ?_
          refine tr_getK (k := 2) q132 d_TrustDesk_why_74 f_TrustDesk_26_12 ?_
          obtain ⟨v141, q140⟩ := tm_atI I127 t133 (k := 1) rfl
          refine tr_getK q140 d_TrustDesk_why_77 f_TrustDesk_474_10 ?_
          exact mv_iret d_TrustDesk_why_80 rfl (by first | rfl | decide) ⟨_, I127, _, rfl⟩
      · refine mv_iconst (v := (-1)) d_TrustDesk_why_29 (by decide) ?_
        exact mv_iret d_TrustDesk_why_30 rfl (by first | rfl | decide) ⟨_, I28, _, rfl⟩
abbrev kY_TrustDesk_withdraws : mj_Y := (⟨"TrustDesk", "withdraws", "(II)Z"⟩, prog_1_method_21_code, 4, (Option.some Jvm.ClassFile.FieldType.boolean))
theorem d_TrustDesk_withdraws_0 : decode kY_TrustDesk_withdraws.2.1 0 = .ok (.aload_n 0, 1) := by decide +kernel
theorem d_TrustDesk_withdraws_1 : decode kY_TrustDesk_withdraws.2.1 1 = .ok (.iload_n 1, 1) := by decide +kernel
theorem d_TrustDesk_withdraws_2 : decode kY_TrustDesk_withdraws.2.1 2 = .ok (.invokevirtual 280, 3) := by decide +kernel
theorem d_TrustDesk_withdraws_5 : decode kY_TrustDesk_withdraws.2.1 5 = .ok (.astore_n 3, 1) := by decide +kernel
theorem d_TrustDesk_withdraws_6 : decode kY_TrustDesk_withdraws.2.1 6 = .ok (.aload_n 3, 1) := by decide +kernel
theorem d_TrustDesk_withdraws_7 : decode kY_TrustDesk_withdraws.2.1 7 = .ok (.ifnull 17, 3) := by decide +kernel
theorem d_TrustDesk_withdraws_24 : decode kY_TrustDesk_withdraws.2.1 24 = .ok (.iconst 0, 1) := by decide +kernel
theorem d_TrustDesk_withdraws_25 : decode kY_TrustDesk_withdraws.2.1 25 = .ok (.ireturn, 1) := by decide +kernel
theorem d_TrustDesk_withdraws_10 : decode kY_TrustDesk_withdraws.2.1 10 = .ok (.iload_n 2, 1) := by decide +kernel
theorem d_TrustDesk_withdraws_11 : decode kY_TrustDesk_withdraws.2.1 11 = .ok (.invokestatic 261, 3) := by decide +kernel
theorem d_TrustDesk_withdraws_14 : decode kY_TrustDesk_withdraws.2.1 14 = .ok (.ifCond .eq 10, 3) := by decide +kernel
theorem d_TrustDesk_withdraws_17 : decode kY_TrustDesk_withdraws.2.1 17 = .ok (.aload_n 3, 1) := by decide +kernel
theorem d_TrustDesk_withdraws_18 : decode kY_TrustDesk_withdraws.2.1 18 = .ok (.getfield 284, 3) := by decide +kernel
theorem d_TrustDesk_withdraws_21 : decode kY_TrustDesk_withdraws.2.1 21 = .ok (.ifCond .eq 5, 3) := by decide +kernel
theorem d_TrustDesk_withdraws_26 : decode kY_TrustDesk_withdraws.2.1 26 = .ok (.aload_n 3, 1) := by decide +kernel
theorem d_TrustDesk_withdraws_27 : decode kY_TrustDesk_withdraws.2.1 27 = .ok (.iload_n 2, 1) := by decide +kernel
theorem d_TrustDesk_withdraws_28 : decode kY_TrustDesk_withdraws.2.1 28 = .ok (.invokevirtual 291, 3) := by decide +kernel
abbrev kY_Scheme_dropObjection : mj_Y := (⟨"TrustDesk$Scheme", "dropObjection", "(I)Z"⟩, prog_12_method_3_code, 2, (Option.some Jvm.ClassFile.FieldType.boolean))
theorem d_Scheme_dropObjection_0 : decode kY_Scheme_dropObjection.2.1 0 = .ok (.iload_n 1, 1) := by decide +kernel
theorem d_Scheme_dropObjection_1 : decode kY_Scheme_dropObjection.2.1 1 = .ok (.ifCond .lt 18, 3) := by decide +kernel
theorem d_Scheme_dropObjection_19 : decode kY_Scheme_dropObjection.2.1 19 = .ok (.iconst 0, 1) := by decide +kernel
theorem d_Scheme_dropObjection_20 : decode kY_Scheme_dropObjection.2.1 20 = .ok (.ireturn, 1) := by decide +kernel
theorem d_Scheme_dropObjection_4 : decode kY_Scheme_dropObjection.2.1 4 = .ok (.iload_n 1, 1) := by decide +kernel
theorem d_Scheme_dropObjection_5 : decode kY_Scheme_dropObjection.2.1 5 = .ok (.bipush 100, 2) := by decide +kernel
theorem d_Scheme_dropObjection_7 : decode kY_Scheme_dropObjection.2.1 7 = .ok (.if_icmp .ge 12, 3) := by decide +kernel
theorem d_Scheme_dropObjection_10 : decode kY_Scheme_dropObjection.2.1 10 = .ok (.aload_n 0, 1) := by decide +kernel
theorem d_Scheme_dropObjection_11 : decode kY_Scheme_dropObjection.2.1 11 = .ok (.getfield 15, 3) := by decide +kernel
theorem d_Scheme_dropObjection_14 : decode kY_Scheme_dropObjection.2.1 14 = .ok (.iload_n 1, 1) := by decide +kernel
theorem d_Scheme_dropObjection_15 : decode kY_Scheme_dropObjection.2.1 15 = .ok (.baload, 1) := by decide +kernel
theorem d_Scheme_dropObjection_16 : decode kY_Scheme_dropObjection.2.1 16 = .ok (.ifCond .ne 5, 3) := by decide +kernel
theorem d_Scheme_dropObjection_21 : decode kY_Scheme_dropObjection.2.1 21 = .ok (.aload_n 0, 1) := by decide +kernel
theorem d_Scheme_dropObjection_22 : decode kY_Scheme_dropObjection.2.1 22 = .ok (.getfield 15, 3) := by decide +kernel
theorem d_Scheme_dropObjection_25 : decode kY_Scheme_dropObjection.2.1 25 = .ok (.iload_n 1, 1) := by decide +kernel
theorem d_Scheme_dropObjection_26 : decode kY_Scheme_dropObjection.2.1 26 = .ok (.iconst 0, 1) := by decide +kernel
theorem d_Scheme_dropObjection_27 : decode kY_Scheme_dropObjection.2.1 27 = .ok (.bastore, 1) := by decide +kernel
theorem d_Scheme_dropObjection_28 : decode kY_Scheme_dropObjection.2.1 28 = .ok (.aload_n 0, 1) := by decide +kernel
theorem d_Scheme_dropObjection_29 : decode kY_Scheme_dropObjection.2.1 29 = .ok (.dup, 1) := by decide +kernel
theorem d_Scheme_dropObjection_30 : decode kY_Scheme_dropObjection.2.1 30 = .ok (.getfield 38, 3) := by decide +kernel
theorem d_Scheme_dropObjection_33 : decode kY_Scheme_dropObjection.2.1 33 = .ok (.iconst 1, 1) := by decide +kernel
theorem d_Scheme_dropObjection_34 : decode kY_Scheme_dropObjection.2.1 34 = .ok (.isub, 1) := by decide +kernel
theorem d_Scheme_dropObjection_35 : decode kY_Scheme_dropObjection.2.1 35 = .ok (.putfield 38, 3) := by decide +kernel
theorem d_Scheme_dropObjection_38 : decode kY_Scheme_dropObjection.2.1 38 = .ok (.iconst 1, 1) := by decide +kernel
theorem d_Scheme_dropObjection_39 : decode kY_Scheme_dropObjection.2.1 39 = .ok (.ireturn, 1) := by decide +kernel
def w_Scheme_dropObjection : List Nat := [1107, 1160]
theorem tc_Scheme_dropObjection {g : mj_G} {l : Launch} {d : Nat} {T0 : tm_H} {M0 : mj_M} {n0 x9 : Nat} {o0 : Nat} {x1 : Int32} (h_o0 : T0 o0 = some (0, 11, 0)) (I0 : tm_I tm_FT (tm_in w_Scheme_dropObjection) x9 T0 M0 n0 T0 M0 n0) : mj_Met g l kY_Scheme_dropObjection d [.ref o0, .int x1] M0 n0 0 0 (tm_Q tm_FT (tm_in w_Scheme_dropObjection) x9 T0 M0 n0 (fun r _ _ => ∃ v : Int32, r = some (.int v) ∧ 0 ≤ v.toInt ∧ v.toInt ≤ 1)) := by
  refine mj_enter (by decide) (Nat.le_of_ble_eq_true rfl) ?_
  refine mv_iload_n d_Scheme_dropObjection_0 rfl rfl ?_
  have := mz_hi x1
  refine mv_if_ltZ (tgt := 19) (a := x1.toInt) d_Scheme_dropObjection_1 (by decide) rfl (fun b1 => ?_) (fun b1 => ?_)
  · refine mv_iconst (v := 0) d_Scheme_dropObjection_19 (by decide) ?_
    exact mv_iret d_Scheme_dropObjection_20 rfl (by decide) ⟨_, I0, _, rfl, by decide, by decide⟩
  · refine mv_iload_n d_Scheme_dropObjection_4 rfl rfl ?_
    refine mv_bipush (v := 100) d_Scheme_dropObjection_5 (by decide) ?_
    have := mz_hi x1
    refine mv_icmp_geZ (tgt := 19) (a := x1.toInt) (b := 100) d_Scheme_dropObjection_7 (by decide) rfl (by decide) (fun b2 => ?_) (fun b2 => ?_)
    · refine mv_iconst (v := 0) d_Scheme_dropObjection_19 (by decide) ?_
      exact mv_iret d_Scheme_dropObjection_20 rfl (by decide) ⟨_, I0, _, rfl, by decide, by decide⟩
    · refine mv_aload_n d_Scheme_dropObjection_10 rfl rfl ?_
      obtain ⟨a4, q3, t_a4⟩ := tm_atR I0 h_o0 (k := 10) rfl
      refine tr_getK q3 d_Scheme_dropObjection_11 f_Scheme_15_11 ?_
      refine mv_iload_n d_Scheme_dropObjection_14 rfl rfl ?_
      refine tr_zald I0 t_a4 (by decide) d_Scheme_dropObjection_15 (vp_in_iff.mpr (by omega)) (fun v5 => ?_)
      have := mz_hi v5
      refine mv_if_neZ (tgt := 21) (a := v5.toInt) d_Scheme_dropObjection_16 (by decide) rfl (fun b6 => ?_) (fun b6 => ?_)
      · refine mv_aload_n d_Scheme_dropObjection_21 rfl rfl ?_
        refine tr_getK (k := 10) q3 d_Scheme_dropObjection_22 f_Scheme_15_11 ?_
        refine mv_iload_n d_Scheme_dropObjection_25 rfl rfl ?_
        refine mv_iconst (v := 0) d_Scheme_dropObjection_26 (by decide) ?_
        refine tr_zastK tm_okF I0 t_a4 (by decide) (Or.inl (by decide)) d_Scheme_dropObjection_27 (vp_in_iff.mpr (by omega)) (fun M7 I8 K9 => ?_)
        refine mv_aload_n d_Scheme_dropObjection_28 rfl rfl ?_
        refine mv_dup d_Scheme_dropObjection_29 rfl ?_
        obtain ⟨v11, q10⟩ := tm_atI I8 h_o0 (k := 7) rfl
        refine tr_getK q10 d_Scheme_dropObjection_30 f_Scheme_38_11 ?_
        refine mv_iconst (v := 1) d_Scheme_dropObjection_33 (by decide) ?_
        refine mv_isub d_Scheme_dropObjection_34 ?_
        refine tr_putK tm_okF I8 h_o0 (k := 7) rfl ⟨_, rfl⟩ (Or.inl (by decide)) d_Scheme_dropObjection_35 p_Scheme_38_11 rfl rfl (fun M12 I13 q14 K15 => ?_)
        refine mv_iconst (v := 1) d_Scheme_dropObjection_38 (by decide) ?_
        exact mv_iret d_Scheme_dropObjection_39 rfl (by decide) ⟨_, I13, _, rfl, by decide, by decide⟩
      · refine mv_iconst (v := 0) d_Scheme_dropObjection_19 (by decide) ?_
        exact mv_iret d_Scheme_dropObjection_20 rfl (by decide) ⟨_, I0, _, rfl, by decide, by decide⟩
theorem lV_TrustDesk_291 : mj_lV "TrustDesk" 291 kY_Scheme_dropObjection 1 := ⟨⟨(mj_in1 (List.mem_of_getElem? (i := 1029) (by decide +kernel)) rfl), (mj_in1 (List.mem_of_getElem? (i := 25) (by decide +kernel)) rfl), (mj_in1 (List.mem_of_getElem? (i := 1032) (by decide +kernel)) rfl), by decide, rfl, by decide⟩, (mj_in1 (List.mem_of_getElem? (i := 1030) (by decide +kernel)) rfl), (mj_in1 (List.mem_of_getElem? (i := 1031) (by decide +kernel)) rfl)⟩
theorem d_TrustDesk_withdraws_31 : decode kY_TrustDesk_withdraws.2.1 31 = .ok (.ireturn, 1) := by decide +kernel
def w_TrustDesk_withdraws : List Nat := [1107, 1160]
theorem tc_TrustDesk_withdraws {g : mj_G} {l : Launch} {d : Nat} {T0 : tm_H} {M0 : mj_M} {n0 x9 : Nat} {o0 : Nat} {x1 : Int32} {x2 : Int32} (h_o0 : T0 o0 = some (0, 12, 0)) (I0 : tm_I tm_FT (tm_in w_TrustDesk_withdraws) x9 T0 M0 n0 T0 M0 n0) : mj_Met g l kY_TrustDesk_withdraws (d + 4) [.ref o0, .int x1, .int x2] M0 n0 0 0 (tm_Q tm_FT (tm_in w_TrustDesk_withdraws) x9 T0 M0 n0 (fun r _ _ => ∃ v : Int32, r = some (.int v) ∧ 0 ≤ v.toInt ∧ v.toInt ≤ 1)) := by
  refine mj_enter (by decide) (Nat.le_of_ble_eq_true rfl) ?_
  refine mv_aload_n d_TrustDesk_withdraws_0 rfl rfl ?_
  refine mv_iload_n d_TrustDesk_withdraws_1 rfl rfl ?_
  obtain ⟨_, b7, -⟩ := I0.1 _ _ h_o0
  refine mv_callV (kc' := 0) (ks' := 0) (As := [.int x1]) (st9 := [.int x1, .ref o0]) d_TrustDesk_withdraws_2 lV_TrustDesk_280 b7 rfl (tc_TrustDesk_schemeAt (d := d) (x9 := x9) (o0 := o0) (x1 := x1) h_o0 I0.start) rfl (Nat.le_of_ble_eq_true rfl) (Nat.le_of_ble_eq_true rfl) (Nat.le_of_ble_eq_true rfl) (hst := rfl) (fun b1r M2 n3 b1 => ?_)
  obtain ⟨T4, J5, b9⟩ := b1
  have I6 := I0.call J5 (tm_sub (by decide)) (Or.inl rfl)
  have t10 := J5.up h_o0
  rcases b9 with rfl | ⟨a8, rfl, t_a8⟩
  · refine mv_astore_nN (lv' := [(3, .null), (0, .ref o0), (1, .int x1), (2, .int x2)]) d_TrustDesk_withdraws_5 rfl (by decide) rfl ?_
    refine mv_aload_nN d_TrustDesk_withdraws_6 rfl rfl ?_
    refine mv_ifnullN (tgt := 24) d_TrustDesk_withdraws_7 (by decide) ?_
    refine mv_iconst (v := 0) d_TrustDesk_withdraws_24 (by decide) ?_
    exact mv_iret d_TrustDesk_withdraws_25 rfl (by decide) ⟨_, I6, _, rfl, by decide, by decide⟩
  · refine mv_astore_n (lv' := [(3, .ref a8), (0, .ref o0), (1, .int x1), (2, .int x2)]) d_TrustDesk_withdraws_5 rfl (by decide) rfl ?_
    refine mv_aload_n d_TrustDesk_withdraws_6 rfl rfl ?_
    refine mv_ifnull d_TrustDesk_withdraws_7 ?_
    refine mv_iload_n d_TrustDesk_withdraws_10 rfl rfl ?_
    refine mv_callS (kc' := 0) (ks' := 0) (As := [.int x2]) (st9 := [.int x2]) d_TrustDesk_withdraws_11 lS_TrustDesk_261 (tc_TrustDesk_isPerson (d := (d + 3)) (x9 := x9) (x1 := x2)  I6.start) rfl (Nat.le_of_ble_eq_true rfl) (Nat.le_of_ble_eq_true rfl) (Nat.le_of_ble_eq_true rfl) (hst := rfl) (fun b11r M12 n13 b11 => ?_)
    obtain ⟨T14, J15, v17, rfl, b18, b19⟩ := b11
    have I16 := I6.call J15 (tm_sub (by decide)) (Or.inl rfl)
    have t20 := J15.up t_a8
    have t21 := J15.up t10
    have := mz_hi v17
    refine mv_if_eqZ (tgt := 24) (a := v17.toInt) d_TrustDesk_withdraws_14 (by decide) rfl (fun b22 => ?_) (fun b22 => ?_)
    · refine mv_iconst (v := 0) d_TrustDesk_withdraws_24 (by decide) ?_
      exact mv_iret d_TrustDesk_withdraws_25 rfl (by decide) ⟨_, I16, _, rfl, by decide, by decide⟩
    · refine mv_aload_n d_TrustDesk_withdraws_17 rfl rfl ?_
      obtain ⟨v24, q23⟩ := tm_atI I16 t20 (k := 5) rfl
      refine tr_getK q23 d_TrustDesk_withdraws_18 f_TrustDesk_284_11 ?_
      have := mz_hi v24
      refine mv_if_eqZ (tgt := 26) (a := v24.toInt) d_TrustDesk_withdraws_21 (by decide) rfl (fun b25 => ?_) (fun b25 => ?_)
      · refine mv_aload_n d_TrustDesk_withdraws_26 rfl rfl ?_
        refine mv_iload_n d_TrustDesk_withdraws_27 rfl rfl ?_
        obtain ⟨_, b32, -⟩ := I16.1 _ _ t20
        refine mv_callV (kc' := 0) (ks' := 0) (As := [.int x2]) (st9 := [.int x2, .ref a8]) d_TrustDesk_withdraws_28 lV_TrustDesk_291 b32 rfl (tc_Scheme_dropObjection (d := (d + 3)) (x9 := x9) (o0 := a8) (x1 := x2) t20 I16.start) rfl (Nat.le_of_ble_eq_true rfl) (Nat.le_of_ble_eq_true rfl) (Nat.le_of_ble_eq_true rfl) (hst := rfl) (fun b26r M27 n28 b26 => ?_)
        obtain ⟨T29, J30, v33, rfl, b34, b35⟩ := b26
        have I31 := I16.call J30 (tm_sub (by decide)) (Or.inl rfl)
        have t36 := J30.up t20
        have t37 := J30.up t21
        have q38 := J30.keep t20 (by decide) q23
        exact mv_iret d_TrustDesk_withdraws_31 rfl (mz_nb (by omega) (by omega)) ⟨_, I31, _, rfl, by omega, by omega⟩
      · refine mv_iconst (v := 0) d_TrustDesk_withdraws_24 (by decide) ?_
        exact mv_iret d_TrustDesk_withdraws_25 rfl (by decide) ⟨_, I16, _, rfl, by decide, by decide⟩
abbrev kY_TrustDesk_worthOf : mj_Y := (⟨"TrustDesk", "worthOf", "(LTrustDesk$Fund;)J"⟩, prog_1_method_34_code, 4, (Option.some Jvm.ClassFile.FieldType.long))
theorem d_TrustDesk_worthOf_0 : decode kY_TrustDesk_worthOf.2.1 0 = .ok (.aload_n 1, 1) := by decide +kernel
theorem d_TrustDesk_worthOf_1 : decode kY_TrustDesk_worthOf.2.1 1 = .ok (.aload_n 0, 1) := by decide +kernel
theorem d_TrustDesk_worthOf_2 : decode kY_TrustDesk_worthOf.2.1 2 = .ok (.getfield 10, 3) := by decide +kernel
theorem d_TrustDesk_worthOf_5 : decode kY_TrustDesk_worthOf.2.1 5 = .ok (.bipush 6, 2) := by decide +kernel
theorem d_TrustDesk_worthOf_7 : decode kY_TrustDesk_worthOf.2.1 7 = .ok (.aload_n 0, 1) := by decide +kernel
theorem d_TrustDesk_worthOf_8 : decode kY_TrustDesk_worthOf.2.1 8 = .ok (.getfield 73, 3) := by decide +kernel
theorem d_TrustDesk_worthOf_11 : decode kY_TrustDesk_worthOf.2.1 11 = .ok (.invokestatic 366, 3) := by decide +kernel
theorem d_TrustDesk_worthOf_14 : decode kY_TrustDesk_worthOf.2.1 14 = .ok (.aload_n 0, 1) := by decide +kernel
theorem d_TrustDesk_worthOf_15 : decode kY_TrustDesk_worthOf.2.1 15 = .ok (.getfield 73, 3) := by decide +kernel
theorem d_TrustDesk_worthOf_18 : decode kY_TrustDesk_worthOf.2.1 18 = .ok (.invokevirtual 84, 3) := by decide +kernel
theorem d_TrustDesk_worthOf_21 : decode kY_TrustDesk_worthOf.2.1 21 = .ok (.i2l, 1) := by decide +kernel
theorem d_TrustDesk_worthOf_22 : decode kY_TrustDesk_worthOf.2.1 22 = .ok (.invokevirtual 184, 3) := by decide +kernel
theorem d_TrustDesk_worthOf_25 : decode kY_TrustDesk_worthOf.2.1 25 = .ok (.lstore_n 2, 1) := by decide +kernel
theorem d_TrustDesk_worthOf_26 : decode kY_TrustDesk_worthOf.2.1 26 = .ok (.aload_n 1, 1) := by decide +kernel
theorem d_TrustDesk_worthOf_27 : decode kY_TrustDesk_worthOf.2.1 27 = .ok (.getfield 170, 3) := by decide +kernel
theorem d_TrustDesk_worthOf_30 : decode kY_TrustDesk_worthOf.2.1 30 = .ok (.ldc2_w 426, 3) := by decide +kernel
theorem k_TrustDesk_426 : Cond.constantLong "TrustDesk" 426 20 ∈ mj_T := (mj_in1 (List.mem_of_getElem? (i := 1133) (by decide +kernel)) rfl)
theorem d_TrustDesk_worthOf_33 : decode kY_TrustDesk_worthOf.2.1 33 = .ok (.lload_n 2, 1) := by decide +kernel
theorem d_TrustDesk_worthOf_34 : decode kY_TrustDesk_worthOf.2.1 34 = .ok (.lmul, 1) := by decide +kernel
theorem d_TrustDesk_worthOf_35 : decode kY_TrustDesk_worthOf.2.1 35 = .ok (.ladd, 1) := by decide +kernel
theorem d_TrustDesk_worthOf_36 : decode kY_TrustDesk_worthOf.2.1 36 = .ok (.ldc2_w 428, 3) := by decide +kernel
theorem k_TrustDesk_428 : Cond.constantLong "TrustDesk" 428 1000000000000 ∈ mj_T := (mj_in1 (List.mem_of_getElem? (i := 1134) (by decide +kernel)) rfl)
theorem d_TrustDesk_worthOf_39 : decode kY_TrustDesk_worthOf.2.1 39 = .ok (.invokestatic 430, 3) := by decide +kernel
theorem d_TrustDesk_worthOf_42 : decode kY_TrustDesk_worthOf.2.1 42 = .ok (.lreturn, 1) := by decide +kernel
def w_TrustDesk_worthOf : List Nat := []
theorem tc_TrustDesk_worthOf {g : mj_G} {l : Launch} {d : Nat} {T0 : tm_H} {M0 : mj_M} {n0 x9 : Nat} {o0 : Nat} {o1 : Nat} (h_o0 : T0 o0 = some (0, 12, 0)) (h_o1 : T0 o1 = some (0, 6, 0)) (I0 : tm_I tm_FT (tm_in w_TrustDesk_worthOf) x9 T0 M0 n0 T0 M0 n0) : mj_Met g l kY_TrustDesk_worthOf (d + 1) [.ref o0, .ref o1] M0 n0 0 0 (tm_Q tm_FT (tm_in w_TrustDesk_worthOf) x9 T0 M0 n0 (fun r _ _ => ∃ v : Int64, r = some (.long v))) := by
  refine mj_enter (by decide) (Nat.le_of_ble_eq_true rfl) ?_
  refine mv_aload_n d_TrustDesk_worthOf_0 rfl rfl ?_
  refine mv_aload_n d_TrustDesk_worthOf_1 rfl rfl ?_
  obtain ⟨a2, q1, t_a2⟩ := tm_atR I0 h_o0 (k := 0) rfl
  refine tr_getK q1 d_TrustDesk_worthOf_2 f_TrustDesk_10_12 ?_
  refine mv_bipush (v := 6) d_TrustDesk_worthOf_5 (by decide) ?_
  refine mv_aload_n d_TrustDesk_worthOf_7 rfl rfl ?_
  obtain ⟨v4, q3⟩ := tm_atI I0 h_o0 (k := 12) rfl
  refine tr_getK q3 d_TrustDesk_worthOf_8 f_TrustDesk_73_12 ?_
  refine mv_callS (kc' := 0) (ks' := 0) (As := [.int v4]) (st9 := [.int v4, .int 6, .ref a2, .ref o1]) d_TrustDesk_worthOf_11 lS_TrustDesk_366 (tc_TrustDesk_yearOf (d := d) (x9 := x9) (x1 := v4)  I0.start) rfl (Nat.le_of_ble_eq_true rfl) (Nat.le_of_ble_eq_true rfl) (Nat.le_of_ble_eq_true rfl) (hst := rfl) (fun b5r M6 n7 b5 => ?_)
  obtain ⟨T8, J9, v11, rfl⟩ := b5
  have I10 := I0.call J9 (tm_sub (by decide)) (Or.inl rfl)
  have t12 := J9.up h_o0
  have t13 := J9.up h_o1
  have t14 := J9.up t_a2
  have q15 := J9.keep h_o0 (by decide) q1
  have q16 := J9.keep h_o0 (by decide) q3
  refine mv_aload_n d_TrustDesk_worthOf_14 rfl rfl ?_
  refine tr_getK (k := 12) q16 d_TrustDesk_worthOf_15 f_TrustDesk_73_12 ?_
  obtain ⟨_, b23, -⟩ := I10.1 _ _ t14
  refine mv_callV (kc' := 0) (ks' := 0) (As := [.int 6, .int v11, .int v4]) (st9 := [.int v4, .int v11, .int 6, .ref a2, .ref o1]) d_TrustDesk_worthOf_18 lV_TrustDesk_84 b23 rfl (tc_Facts_asKnown (d := d) (x9 := x9) (o0 := a2) (x1 := 6) (x2 := v11) (x3 := v4) t14 I10.start) rfl (Nat.le_of_ble_eq_true rfl) (Nat.le_of_ble_eq_true rfl) (Nat.le_of_ble_eq_true rfl) (hst := rfl) (fun b17r M18 n19 b17 => ?_)
  obtain ⟨T20, J21, v24, rfl⟩ := b17
  have I22 := I10.call J21 (tm_sub (by decide)) (Or.inl rfl)
  have t25 := J21.up t12
  have t26 := J21.up t13
  have q27 := J21.keep t12 (by decide) q15
  have t28 := J21.up t14
  have q29 := J21.keep t12 (by decide) q16
  refine mv_i2l (v := v24.toInt64) d_TrustDesk_worthOf_21 rfl ?_
  obtain ⟨_, b36, -⟩ := I22.1 _ _ t26
  refine mv_callV (kc' := 0) (ks' := 0) (As := [.long v24.toInt64]) (st9 := [.long v24.toInt64, .ref o1]) d_TrustDesk_worthOf_22 lV_TrustDesk_184 b36 rfl (tc_Fund_incomeAt (d := d) (x9 := x9) (o0 := o1) (x1 := v24.toInt64) t26 I22.start) rfl (Nat.le_of_ble_eq_true rfl) (Nat.le_of_ble_eq_true rfl) (Nat.le_of_ble_eq_true rfl) (hst := rfl) (fun b30r M31 n32 b30 => ?_)
  obtain ⟨T33, J34, v37, rfl⟩ := b30
  have I35 := I22.call J34 (tm_sub (by decide)) (Or.inl rfl)
  have t38 := J34.up t25
  have t39 := J34.up t26
  have q40 := J34.keep t25 (by decide) q27
  have t41 := J34.up t28
  have q42 := J34.keep t25 (by decide) q29
  refine mv_lstore_n (lv' := [(2, .long v37), (0, .ref o0), (1, .ref o1)]) d_TrustDesk_worthOf_25 rfl (by decide) rfl ?_
  refine mv_aload_n d_TrustDesk_worthOf_26 rfl rfl ?_
  obtain ⟨v44, q43⟩ := tm_atL I35 t39 (k := 3) rfl
  refine tr_getK q43 d_TrustDesk_worthOf_27 f_TrustDesk_170_6 ?_
  refine mv_ldc2 d_TrustDesk_worthOf_30 k_TrustDesk_426 ?_
  refine mv_lload_n d_TrustDesk_worthOf_33 rfl rfl ?_
  refine mv_lmul d_TrustDesk_worthOf_34 ?_
  refine mv_ladd d_TrustDesk_worthOf_35 ?_
  refine mv_ldc2 d_TrustDesk_worthOf_36 k_TrustDesk_428 ?_
  refine mv_mmin_long (v := (if 1000000000000 < (v44 + (20 * v37)) then 1000000000000 else (v44 + (20 * v37)))) d_TrustDesk_worthOf_39 (mj_in1 (List.mem_of_getElem? (i := 1135) (by decide +kernel)) rfl) (Nat.le_of_ble_eq_true rfl) rfl ?_
  exact mv_lret d_TrustDesk_worthOf_42 rfl ⟨_, I35, _, rfl⟩
abbrev kY_End_copy : mj_Y := (⟨"TrustDesk$End", "copy", "()LTrustDesk$End;"⟩, prog_4_method_2_code, 2, (Option.some (Jvm.ClassFile.FieldType.object "TrustDesk$End")))
theorem d_End_copy_0 : decode kY_End_copy.2.1 0 = .ok (.new 10, 3) := by decide +kernel
theorem n_End_10 : mj_nw "TrustDesk$End" 10 3 [.null, .int 0, .int 0, .int 0] := ⟨kR_End, kF_End, 4, kt_End, rfl, kg_3, kto_End, (mj_in1 (List.mem_of_getElem? (i := 1151) (by decide +kernel)) rfl), (mj_in1 (List.mem_of_getElem? (i := 780) (by decide +kernel)) rfl), (mj_in1 (List.mem_of_getElem? (i := 23) (by decide +kernel)) rfl), by decide +kernel, rfl, fun _ => rfl⟩
theorem d_End_copy_3 : decode kY_End_copy.2.1 3 = .ok (.dup, 1) := by decide +kernel
theorem d_End_copy_4 : decode kY_End_copy.2.1 4 = .ok (.aload_n 0, 1) := by decide +kernel
theorem d_End_copy_5 : decode kY_End_copy.2.1 5 = .ok (.getfield 18, 3) := by decide +kernel
theorem f_End_18_3 : mj_fl "TrustDesk$End" 18 3 0 := ⟨kR_End, kF_End, 4, "TrustDesk$End", rfl, kg_3, by decide, (mj_in1 (List.mem_of_getElem? (i := 785) (by decide +kernel)) rfl), Or.inl rfl⟩
theorem d_End_copy_8 : decode kY_End_copy.2.1 8 = .ok (.invokespecial 22, 3) := by decide +kernel
theorem lI_End_22 : mj_lI "TrustDesk$End" 22 kY_End_init 1 := ⟨⟨(mj_in1 (List.mem_of_getElem? (i := 1152) (by decide +kernel)) rfl), (mj_in1 (List.mem_of_getElem? (i := 23) (by decide +kernel)) rfl), (mj_in1 (List.mem_of_getElem? (i := 783) (by decide +kernel)) rfl), by decide, rfl, by decide⟩, rfl, (mj_in1 (List.mem_of_getElem? (i := 782) (by decide +kernel)) rfl), rfl⟩
theorem d_End_copy_11 : decode kY_End_copy.2.1 11 = .ok (.astore_n 1, 1) := by decide +kernel
theorem d_End_copy_12 : decode kY_End_copy.2.1 12 = .ok (.aload_n 1, 1) := by decide +kernel
theorem d_End_copy_13 : decode kY_End_copy.2.1 13 = .ok (.aload_n 0, 1) := by decide +kernel
theorem d_End_copy_14 : decode kY_End_copy.2.1 14 = .ok (.getfield 9, 3) := by decide +kernel
theorem f_End_9_3 : mj_fl "TrustDesk$End" 9 3 1 := ⟨kR_End, kF_End, 4, "TrustDesk$End", rfl, kg_3, by decide, (mj_in1 (List.mem_of_getElem? (i := 788) (by decide +kernel)) rfl), Or.inl rfl⟩
theorem d_End_copy_17 : decode kY_End_copy.2.1 17 = .ok (.putfield 9, 3) := by decide +kernel
theorem d_End_copy_20 : decode kY_End_copy.2.1 20 = .ok (.aload_n 1, 1) := by decide +kernel
theorem d_End_copy_21 : decode kY_End_copy.2.1 21 = .ok (.aload_n 0, 1) := by decide +kernel
theorem d_End_copy_22 : decode kY_End_copy.2.1 22 = .ok (.getfield 25, 3) := by decide +kernel
theorem d_End_copy_25 : decode kY_End_copy.2.1 25 = .ok (.putfield 25, 3) := by decide +kernel
theorem d_End_copy_28 : decode kY_End_copy.2.1 28 = .ok (.aload_n 1, 1) := by decide +kernel
theorem d_End_copy_29 : decode kY_End_copy.2.1 29 = .ok (.aload_n 0, 1) := by decide +kernel
theorem d_End_copy_30 : decode kY_End_copy.2.1 30 = .ok (.getfield 15, 3) := by decide +kernel
theorem f_End_15_3 : mj_fl "TrustDesk$End" 15 3 3 := ⟨kR_End, kF_End, 4, "TrustDesk$End", rfl, kg_3, by decide, (mj_in1 (List.mem_of_getElem? (i := 793) (by decide +kernel)) rfl), Or.inl rfl⟩
theorem d_End_copy_33 : decode kY_End_copy.2.1 33 = .ok (.putfield 15, 3) := by decide +kernel
theorem d_End_copy_36 : decode kY_End_copy.2.1 36 = .ok (.aload_n 1, 1) := by decide +kernel
theorem d_End_copy_37 : decode kY_End_copy.2.1 37 = .ok (.areturn, 1) := by decide +kernel
def w_End_copy : List Nat := [301, 302, 303]
theorem tc_End_copy {g : mj_G} {l : Launch} {d : Nat} {T0 : tm_H} {M0 : mj_M} {n0 x9 : Nat} {o0 : Nat} (h_o0 : T0 o0 = some (0, 3, 0)) (I0 : tm_I tm_FT (tm_in w_End_copy) x9 T0 M0 n0 T0 M0 n0) : mj_Met g l kY_End_copy (d + 2) [.ref o0] M0 n0 1 4 (tm_Q tm_FT (tm_in w_End_copy) x9 T0 M0 n0 (fun r T _ => ∃ b, r = some (.ref b) ∧ T b = some (0, 3, 0))) := by
  refine mj_enter (by decide) (Nat.le_of_ble_eq_true rfl) ?_
  refine tr_new (kc' := 0) (ks' := 0) tm_okF I0 d_End_copy_0 n_End_10 (Nat.le_of_ble_eq_true rfl) (Nat.le_of_ble_eq_true rfl) (fun T1 M2 I3 t_x4 m5 h6 u7 K8 => ?_)
  have t9 := u7 _ _ h_o0
  refine mv_dup d_End_copy_3 rfl ?_
  refine mv_aload_n d_End_copy_4 rfl rfl ?_
  obtain ⟨a11, q10, t_a11⟩ := tm_atR I3 t9 (k := 0) rfl
  refine tr_getK q10 d_End_copy_5 f_End_18_3 ?_
  refine mv_callI (kc' := 0) (ks' := 0) (As := [.ref a11]) (st9 := [.ref a11, .ref n0, .ref n0]) d_End_copy_8 lI_End_22 (tc_End_init (d := d) (o0 := n0) (o1 := a11) t_x4 t_a11 m5 I3.start) rfl (Nat.le_of_ble_eq_true rfl) (Nat.le_of_ble_eq_true rfl) (Nat.le_of_ble_eq_true rfl) (hst := rfl) (fun b12r M13 n14 b12 => ?_)
  obtain ⟨T15, J16, rfl, m18⟩ := b12
  have I17 := I3.call J16 (tm_sub (by decide)) (Or.inr h6)
  have t19 := J16.up t_x4
  have t20 := J16.up t9
  have t21 := J16.up t_a11
  have q22 := J16.keep t9 (by decide) q10
  obtain ⟨T23, I24, t_x25, u26⟩ := I17.sealO tm_okF t19 h6 m18 (fun _ z9 => (tm_fs_cons ⟨_, rfl, z9 _ _ t21 (Nat.le_of_ble_eq_true rfl)⟩ (tm_fs_cons ⟨_, rfl⟩ (tm_fs_cons ⟨_, rfl⟩ (tm_fs_cons ⟨_, rfl⟩ tm_fs_nil)))))
  have t27 := u26 _ _ t21 (tm_dif t21 t19 rfl)
  have t28 := u26 _ _ t20 (tm_dif t20 t19 rfl)
  refine mv_astore_n (lv' := [(1, .ref n0), (0, .ref o0)]) d_End_copy_11 rfl (by decide) rfl ?_
  refine mv_aload_n d_End_copy_12 rfl rfl ?_
  refine mv_aload_n d_End_copy_13 rfl rfl ?_
  obtain ⟨v30, q29⟩ := tm_atI I24 t28 (k := 1) rfl
  refine tr_getK q29 d_End_copy_14 f_End_9_3 ?_
  refine tr_putK tm_okF I24 t_x25 (k := 1) rfl ⟨_, rfl⟩ (Or.inl (by decide)) d_End_copy_17 p_End_9_3 rfl rfl (fun M31 I32 q33 K34 => ?_)
  refine mv_aload_n d_End_copy_20 rfl rfl ?_
  refine mv_aload_n d_End_copy_21 rfl rfl ?_
  obtain ⟨v36, q35⟩ := tm_atI I32 t28 (k := 2) rfl
  refine tr_getK q35 d_End_copy_22 f_End_25_3 ?_
  refine tr_putK tm_okF I32 t_x25 (k := 2) rfl ⟨_, rfl⟩ (Or.inl (by decide)) d_End_copy_25 p_End_25_3 rfl rfl (fun M37 I38 q39 K40 => ?_)
  refine mv_aload_n d_End_copy_28 rfl rfl ?_
  refine mv_aload_n d_End_copy_29 rfl rfl ?_
  obtain ⟨v42, q41⟩ := tm_atI I38 t28 (k := 3) rfl
  refine tr_getK q41 d_End_copy_30 f_End_15_3 ?_
  refine tr_putK tm_okF I38 t_x25 (k := 3) rfl ⟨_, rfl⟩ (Or.inl (by decide)) d_End_copy_33 p_End_15_3 rfl rfl (fun M43 I44 q45 K46 => ?_)
  refine mv_aload_n d_End_copy_36 rfl rfl ?_
  exact mv_aret (r := some n0) d_End_copy_37 rfl (by first | exact Or.inl ⟨_, rfl⟩ | exact Or.inr ⟨_, rfl⟩) ⟨_, I44, ⟨_, rfl, t_x25⟩⟩
abbrev kY_Fund_giveUp : mj_Y := (⟨"TrustDesk$Fund", "giveUp", "(I)V"⟩, prog_7_method_16_code, 3, (Option.none : Option Jvm.ClassFile.FieldType))
theorem d_Fund_giveUp_0 : decode kY_Fund_giveUp.2.1 0 = .ok (.aload_n 0, 1) := by decide +kernel
theorem d_Fund_giveUp_1 : decode kY_Fund_giveUp.2.1 1 = .ok (.iload_n 1, 1) := by decide +kernel
theorem d_Fund_giveUp_2 : decode kY_Fund_giveUp.2.1 2 = .ok (.putfield 18, 3) := by decide +kernel
theorem d_Fund_giveUp_5 : decode kY_Fund_giveUp.2.1 5 = .ok (.aload_n 0, 1) := by decide +kernel
theorem d_Fund_giveUp_6 : decode kY_Fund_giveUp.2.1 6 = .ok (.lconst 0, 1) := by decide +kernel
theorem d_Fund_giveUp_7 : decode kY_Fund_giveUp.2.1 7 = .ok (.putfield 49, 3) := by decide +kernel
theorem d_Fund_giveUp_10 : decode kY_Fund_giveUp.2.1 10 = .ok (.aload_n 0, 1) := by decide +kernel
theorem d_Fund_giveUp_11 : decode kY_Fund_giveUp.2.1 11 = .ok (.iconst 0, 1) := by decide +kernel
theorem d_Fund_giveUp_12 : decode kY_Fund_giveUp.2.1 12 = .ok (.putfield 42, 3) := by decide +kernel
theorem d_Fund_giveUp_15 : decode kY_Fund_giveUp.2.1 15 = .ok (.aload_n 0, 1) := by decide +kernel
theorem d_Fund_giveUp_16 : decode kY_Fund_giveUp.2.1 16 = .ok (.iconst 0, 1) := by decide +kernel
theorem d_Fund_giveUp_17 : decode kY_Fund_giveUp.2.1 17 = .ok (.putfield 45, 3) := by decide +kernel
theorem d_Fund_giveUp_20 : decode kY_Fund_giveUp.2.1 20 = .ok (.aload_n 0, 1) := by decide +kernel
theorem d_Fund_giveUp_21 : decode kY_Fund_giveUp.2.1 21 = .ok (.iconst 0, 1) := by decide +kernel
theorem d_Fund_giveUp_22 : decode kY_Fund_giveUp.2.1 22 = .ok (.putfield 87, 3) := by decide +kernel
theorem d_Fund_giveUp_25 : decode kY_Fund_giveUp.2.1 25 = .ok (.iconst 0, 1) := by decide +kernel
theorem d_Fund_giveUp_26 : decode kY_Fund_giveUp.2.1 26 = .ok (.istore_n 2, 1) := by decide +kernel
theorem d_Fund_giveUp_27 : decode kY_Fund_giveUp.2.1 27 = .ok (.iload_n 2, 1) := by decide +kernel
theorem d_Fund_giveUp_28 : decode kY_Fund_giveUp.2.1 28 = .ok (.bipush 100, 2) := by decide +kernel
theorem d_Fund_giveUp_30 : decode kY_Fund_giveUp.2.1 30 = .ok (.if_icmp .ge 16, 3) := by decide +kernel
theorem d_Fund_giveUp_46 : decode kY_Fund_giveUp.2.1 46 = .ok (.iconst 0, 1) := by decide +kernel
theorem d_Fund_giveUp_47 : decode kY_Fund_giveUp.2.1 47 = .ok (.istore_n 2, 1) := by decide +kernel
theorem d_Fund_giveUp_48 : decode kY_Fund_giveUp.2.1 48 = .ok (.iload_n 2, 1) := by decide +kernel
theorem d_Fund_giveUp_49 : decode kY_Fund_giveUp.2.1 49 = .ok (.aload_n 0, 1) := by decide +kernel
theorem d_Fund_giveUp_50 : decode kY_Fund_giveUp.2.1 50 = .ok (.getfield 24, 3) := by decide +kernel
theorem d_Fund_giveUp_53 : decode kY_Fund_giveUp.2.1 53 = .ok (.invokevirtual 61, 3) := by decide +kernel
theorem d_Fund_giveUp_56 : decode kY_Fund_giveUp.2.1 56 = .ok (.if_icmp .ge 24, 3) := by decide +kernel
theorem d_Fund_giveUp_80 : decode kY_Fund_giveUp.2.1 80 = .ok (.return_, 1) := by decide +kernel
theorem d_Fund_giveUp_59 : decode kY_Fund_giveUp.2.1 59 = .ok (.aload_n 0, 1) := by decide +kernel
theorem d_Fund_giveUp_60 : decode kY_Fund_giveUp.2.1 60 = .ok (.getfield 24, 3) := by decide +kernel
theorem d_Fund_giveUp_63 : decode kY_Fund_giveUp.2.1 63 = .ok (.iload_n 2, 1) := by decide +kernel
theorem d_Fund_giveUp_64 : decode kY_Fund_giveUp.2.1 64 = .ok (.invokevirtual 65, 3) := by decide +kernel
theorem d_Fund_giveUp_67 : decode kY_Fund_giveUp.2.1 67 = .ok (.checkcast 69, 3) := by decide +kernel
theorem d_Fund_giveUp_70 : decode kY_Fund_giveUp.2.1 70 = .ok (.iconst 2, 1) := by decide +kernel
theorem d_Fund_giveUp_71 : decode kY_Fund_giveUp.2.1 71 = .ok (.putfield 80, 3) := by decide +kernel
theorem p_Fund_80_3 : mj_fp "TrustDesk$Fund" 80 3 1 (kt_End 1) false := ⟨kR_End, kF_End, 4, "TrustDesk$End", kt_End, rfl, kg_3, by decide, (mj_in1 (List.mem_of_getElem? (i := 789) (by decide +kernel)) rfl), Or.inl rfl, kto_End, kn_End, rfl, rfl, fun h => by cases h⟩
theorem d_Fund_giveUp_74 : decode kY_Fund_giveUp.2.1 74 = .ok (.iinc 2 1, 3) := by decide +kernel
theorem d_Fund_giveUp_77 : decode kY_Fund_giveUp.2.1 77 = .ok (.goto (-29), 3) := by decide +kernel
theorem d_Fund_giveUp_33 : decode kY_Fund_giveUp.2.1 33 = .ok (.aload_n 0, 1) := by decide +kernel
theorem d_Fund_giveUp_34 : decode kY_Fund_giveUp.2.1 34 = .ok (.getfield 32, 3) := by decide +kernel
theorem d_Fund_giveUp_37 : decode kY_Fund_giveUp.2.1 37 = .ok (.iload_n 2, 1) := by decide +kernel
theorem d_Fund_giveUp_38 : decode kY_Fund_giveUp.2.1 38 = .ok (.iconst 0, 1) := by decide +kernel
theorem d_Fund_giveUp_39 : decode kY_Fund_giveUp.2.1 39 = .ok (.bastore, 1) := by decide +kernel
theorem d_Fund_giveUp_40 : decode kY_Fund_giveUp.2.1 40 = .ok (.iinc 2 1, 3) := by decide +kernel
theorem d_Fund_giveUp_43 : decode kY_Fund_giveUp.2.1 43 = .ok (.goto (-16), 3) := by decide +kernel
abbrev kY_Fund_mixParts : mj_Y := (⟨"TrustDesk$Fund", "mixParts", "(JLTrustDesk$Fund;J)V"⟩, prog_7_method_14_code, 11, (Option.none : Option Jvm.ClassFile.FieldType))
theorem d_Fund_mixParts_0 : decode kY_Fund_mixParts.2.1 0 = .ok (.lload_n 1, 1) := by decide +kernel
theorem d_Fund_mixParts_1 : decode kY_Fund_mixParts.2.1 1 = .ok (.lload 4, 2) := by decide +kernel
theorem d_Fund_mixParts_3 : decode kY_Fund_mixParts.2.1 3 = .ok (.ladd, 1) := by decide +kernel
theorem d_Fund_mixParts_4 : decode kY_Fund_mixParts.2.1 4 = .ok (.lstore 6, 2) := by decide +kernel
theorem d_Fund_mixParts_6 : decode kY_Fund_mixParts.2.1 6 = .ok (.lload 6, 2) := by decide +kernel
theorem d_Fund_mixParts_8 : decode kY_Fund_mixParts.2.1 8 = .ok (.lconst 0, 1) := by decide +kernel
theorem d_Fund_mixParts_9 : decode kY_Fund_mixParts.2.1 9 = .ok (.lcmp, 1) := by decide +kernel
theorem d_Fund_mixParts_10 : decode kY_Fund_mixParts.2.1 10 = .ok (.ifCond .gt 4, 3) := by decide +kernel
theorem d_Fund_mixParts_14 : decode kY_Fund_mixParts.2.1 14 = .ok (.ldc 48, 2) := by decide +kernel
theorem d_Fund_mixParts_16 : decode kY_Fund_mixParts.2.1 16 = .ok (.istore 8, 2) := by decide +kernel
theorem d_Fund_mixParts_18 : decode kY_Fund_mixParts.2.1 18 = .ok (.iconst (-1), 1) := by decide +kernel
theorem d_Fund_mixParts_19 : decode kY_Fund_mixParts.2.1 19 = .ok (.istore 9, 2) := by decide +kernel
theorem d_Fund_mixParts_21 : decode kY_Fund_mixParts.2.1 21 = .ok (.iconst 0, 1) := by decide +kernel
theorem d_Fund_mixParts_22 : decode kY_Fund_mixParts.2.1 22 = .ok (.istore 10, 2) := by decide +kernel
theorem d_Fund_mixParts_24 : decode kY_Fund_mixParts.2.1 24 = .ok (.iload 10, 2) := by decide +kernel
theorem d_Fund_mixParts_26 : decode kY_Fund_mixParts.2.1 26 = .ok (.bipush 12, 2) := by decide +kernel
theorem d_Fund_mixParts_28 : decode kY_Fund_mixParts.2.1 28 = .ok (.if_icmp .ge 74, 3) := by decide +kernel
theorem d_Fund_mixParts_102 : decode kY_Fund_mixParts.2.1 102 = .ok (.iload 9, 2) := by decide +kernel
theorem d_Fund_mixParts_104 : decode kY_Fund_mixParts.2.1 104 = .ok (.ifCond .lt 15, 3) := by decide +kernel
theorem d_Fund_mixParts_119 : decode kY_Fund_mixParts.2.1 119 = .ok (.return_, 1) := by decide +kernel
theorem d_Fund_mixParts_107 : decode kY_Fund_mixParts.2.1 107 = .ok (.aload_n 0, 1) := by decide +kernel
theorem d_Fund_mixParts_108 : decode kY_Fund_mixParts.2.1 108 = .ok (.getfield 28, 3) := by decide +kernel
theorem d_Fund_mixParts_111 : decode kY_Fund_mixParts.2.1 111 = .ok (.iload 9, 2) := by decide +kernel
theorem d_Fund_mixParts_113 : decode kY_Fund_mixParts.2.1 113 = .ok (.dup2, 1) := by decide +kernel
theorem d_Fund_mixParts_114 : decode kY_Fund_mixParts.2.1 114 = .ok (.iaload, 1) := by decide +kernel
theorem d_Fund_mixParts_115 : decode kY_Fund_mixParts.2.1 115 = .ok (.iload 8, 2) := by decide +kernel
theorem d_Fund_mixParts_117 : decode kY_Fund_mixParts.2.1 117 = .ok (.iadd, 1) := by decide +kernel
theorem d_Fund_mixParts_118 : decode kY_Fund_mixParts.2.1 118 = .ok (.iastore, 1) := by decide +kernel
theorem d_Fund_mixParts_31 : decode kY_Fund_mixParts.2.1 31 = .ok (.aload_n 0, 1) := by decide +kernel
theorem d_Fund_mixParts_32 : decode kY_Fund_mixParts.2.1 32 = .ok (.getfield 28, 3) := by decide +kernel
theorem d_Fund_mixParts_35 : decode kY_Fund_mixParts.2.1 35 = .ok (.iload 10, 2) := by decide +kernel
theorem d_Fund_mixParts_37 : decode kY_Fund_mixParts.2.1 37 = .ok (.lload_n 1, 1) := by decide +kernel
theorem d_Fund_mixParts_38 : decode kY_Fund_mixParts.2.1 38 = .ok (.aload_n 0, 1) := by decide +kernel
theorem d_Fund_mixParts_39 : decode kY_Fund_mixParts.2.1 39 = .ok (.getfield 28, 3) := by decide +kernel
theorem d_Fund_mixParts_42 : decode kY_Fund_mixParts.2.1 42 = .ok (.iload 10, 2) := by decide +kernel
theorem d_Fund_mixParts_44 : decode kY_Fund_mixParts.2.1 44 = .ok (.iaload, 1) := by decide +kernel
theorem d_Fund_mixParts_45 : decode kY_Fund_mixParts.2.1 45 = .ok (.i2l, 1) := by decide +kernel
theorem d_Fund_mixParts_46 : decode kY_Fund_mixParts.2.1 46 = .ok (.lmul, 1) := by decide +kernel
theorem d_Fund_mixParts_47 : decode kY_Fund_mixParts.2.1 47 = .ok (.lload 4, 2) := by decide +kernel
theorem d_Fund_mixParts_49 : decode kY_Fund_mixParts.2.1 49 = .ok (.aload_n 3, 1) := by decide +kernel
theorem d_Fund_mixParts_50 : decode kY_Fund_mixParts.2.1 50 = .ok (.getfield 28, 3) := by decide +kernel
theorem d_Fund_mixParts_53 : decode kY_Fund_mixParts.2.1 53 = .ok (.iload 10, 2) := by decide +kernel
theorem d_Fund_mixParts_55 : decode kY_Fund_mixParts.2.1 55 = .ok (.iaload, 1) := by decide +kernel
theorem d_Fund_mixParts_56 : decode kY_Fund_mixParts.2.1 56 = .ok (.i2l, 1) := by decide +kernel
theorem d_Fund_mixParts_57 : decode kY_Fund_mixParts.2.1 57 = .ok (.lmul, 1) := by decide +kernel
theorem d_Fund_mixParts_58 : decode kY_Fund_mixParts.2.1 58 = .ok (.ladd, 1) := by decide +kernel
theorem d_Fund_mixParts_59 : decode kY_Fund_mixParts.2.1 59 = .ok (.lload 6, 2) := by decide +kernel
theorem d_Fund_mixParts_61 : decode kY_Fund_mixParts.2.1 61 = .ok (.ldiv, 1) := by decide +kernel
theorem d_Fund_mixParts_62 : decode kY_Fund_mixParts.2.1 62 = .ok (.l2i, 1) := by decide +kernel
theorem d_Fund_mixParts_63 : decode kY_Fund_mixParts.2.1 63 = .ok (.iastore, 1) := by decide +kernel
theorem d_Fund_mixParts_64 : decode kY_Fund_mixParts.2.1 64 = .ok (.iload 8, 2) := by decide +kernel
theorem d_Fund_mixParts_66 : decode kY_Fund_mixParts.2.1 66 = .ok (.aload_n 0, 1) := by decide +kernel
theorem d_Fund_mixParts_67 : decode kY_Fund_mixParts.2.1 67 = .ok (.getfield 28, 3) := by decide +kernel
theorem d_Fund_mixParts_70 : decode kY_Fund_mixParts.2.1 70 = .ok (.iload 10, 2) := by decide +kernel
theorem d_Fund_mixParts_72 : decode kY_Fund_mixParts.2.1 72 = .ok (.iaload, 1) := by decide +kernel
theorem d_Fund_mixParts_73 : decode kY_Fund_mixParts.2.1 73 = .ok (.isub, 1) := by decide +kernel
theorem d_Fund_mixParts_74 : decode kY_Fund_mixParts.2.1 74 = .ok (.istore 8, 2) := by decide +kernel
theorem d_Fund_mixParts_76 : decode kY_Fund_mixParts.2.1 76 = .ok (.iload 9, 2) := by decide +kernel
theorem d_Fund_mixParts_78 : decode kY_Fund_mixParts.2.1 78 = .ok (.iconst (-1), 1) := by decide +kernel
theorem d_Fund_mixParts_79 : decode kY_Fund_mixParts.2.1 79 = .ok (.if_icmp .ne 17, 3) := by decide +kernel
theorem d_Fund_mixParts_96 : decode kY_Fund_mixParts.2.1 96 = .ok (.iinc 10 1, 3) := by decide +kernel
theorem d_Fund_mixParts_99 : decode kY_Fund_mixParts.2.1 99 = .ok (.goto (-75), 3) := by decide +kernel
theorem d_Fund_mixParts_82 : decode kY_Fund_mixParts.2.1 82 = .ok (.aload_n 0, 1) := by decide +kernel
theorem d_Fund_mixParts_83 : decode kY_Fund_mixParts.2.1 83 = .ok (.getfield 28, 3) := by decide +kernel
theorem d_Fund_mixParts_86 : decode kY_Fund_mixParts.2.1 86 = .ok (.iload 10, 2) := by decide +kernel
theorem d_Fund_mixParts_88 : decode kY_Fund_mixParts.2.1 88 = .ok (.iaload, 1) := by decide +kernel
theorem d_Fund_mixParts_89 : decode kY_Fund_mixParts.2.1 89 = .ok (.ifCond .le 7, 3) := by decide +kernel
theorem d_Fund_mixParts_92 : decode kY_Fund_mixParts.2.1 92 = .ok (.iload 10, 2) := by decide +kernel
theorem d_Fund_mixParts_94 : decode kY_Fund_mixParts.2.1 94 = .ok (.istore 9, 2) := by decide +kernel
theorem d_Fund_mixParts_13 : decode kY_Fund_mixParts.2.1 13 = .ok (.return_, 1) := by decide +kernel
def w_Fund_mixParts : List Nat := [662]
theorem tc_Fund_mixParts {g : mj_G} {l : Launch} {d : Nat} {T0 : tm_H} {M0 : mj_M} {n0 x9 : Nat} {o0 : Nat} {x1 : Int64} {o2 : Nat} {x3 : Int64} (h_o0 : T0 o0 = some (0, 6, 0)) (h_o2 : T0 o2 = some (0, 6, 0)) (I0 : tm_I tm_FT (tm_in w_Fund_mixParts) x9 T0 M0 n0 T0 M0 n0) : mj_Met g l kY_Fund_mixParts d [.ref o0, .long x1, .ref o2, .long x3] M0 n0 0 0 (tm_Q tm_FT (tm_in w_Fund_mixParts) x9 T0 M0 n0 (fun r _ _ => r = none)) := by
  refine mj_enter (by decide) (Nat.le_of_ble_eq_true rfl) ?_
  refine mv_lload_n d_Fund_mixParts_0 rfl rfl ?_
  refine mv_lload d_Fund_mixParts_1 rfl ?_
  refine mv_ladd d_Fund_mixParts_3 ?_
  refine mv_lstore (lv' := [(6, .long (x1 + x3)), (0, .ref o0), (1, .long x1), (3, .ref o2), (4, .long x3)]) d_Fund_mixParts_4 (by decide) rfl ?_
  refine mv_lload d_Fund_mixParts_6 rfl ?_
  refine mv_lconst (v := 0) d_Fund_mixParts_8 (by decide) ?_
  refine mv_lgtZ (tgt := 14) (a := (x1 + x3).toInt) (b := 0) d_Fund_mixParts_9 d_Fund_mixParts_10 (by decide) rfl (by decide) (fun b1 => ?_) (fun b1 => ?_)
  · refine mv_ldc d_Fund_mixParts_14 k_Fund_48 ?_
    refine mv_istore (lv' := [(8, .int 1000000), (6, .long (x1 + x3)), (0, .ref o0), (1, .long x1), (3, .ref o2), (4, .long x3)]) d_Fund_mixParts_16 (by decide) rfl ?_
    refine mv_iconst (v := (-1)) d_Fund_mixParts_18 (by decide) ?_
    refine mv_istore (lv' := [(9, .int (-1)), (8, .int 1000000), (6, .long (x1 + x3)), (0, .ref o0), (1, .long x1), (3, .ref o2), (4, .long x3)]) d_Fund_mixParts_19 (by decide) rfl ?_
    refine mv_iconst (v := 0) d_Fund_mixParts_21 (by decide) ?_
    refine mv_istore (lv' := [(10, .int 0), (9, .int (-1)), (8, .int 1000000), (6, .long (x1 + x3)), (0, .ref o0), (1, .long x1), (3, .ref o2), (4, .long x3)]) d_Fund_mixParts_22 (by decide) rfl ?_
    have L24_2 : ∀ (k : Nat) (i10_2 : Int32) (i9_2 : Int32) (i8_2 : Int32) (T_2 : tm_H) (M_2 : mj_M) (n_2 : Nat), tm_I tm_FT (tm_in w_Fund_mixParts) x9 T0 M0 n0 T_2 M_2 n_2 → T_2 o0 = some (0, 6, 0) → T_2 o2 = some (0, 6, 0) → i9_2.toInt ≤ 11 → 0 ≤ i10_2.toInt → 2147483647 - i10_2.toInt < (k : Int) → mj_V g l kY_Fund_mixParts d 24 [(10, .int i10_2), (9, .int i9_2), (8, .int i8_2), (6, .long (x1 + x3)), (0, .ref o0), (1, .long x1), (3, .ref o2), (4, .long x3)] [] M_2 n_2 0 0 (tm_Q tm_FT (tm_in w_Fund_mixParts) x9 T0 M0 n0 (fun r _ _ => r = none)) := by
      intro k2
      induction k2 with
      | zero =>
        intro i10_2 i9_2 i8_2 T_2 M_2 n_2 I_2 h_q0_2 h_q3_2 iv0_2 iv1_2 hk2
        have := mz_hi i10_2
        omega
      | succ k2 ih2 =>
        intro i10_2 i9_2 i8_2 T_2 M_2 n_2 I_2 h_q0_2 h_q3_2 iv0_2 iv1_2 hk2
        refine mv_iload d_Fund_mixParts_24 rfl ?_
        refine mv_bipush (v := 12) d_Fund_mixParts_26 (by decide) ?_
        have := mz_hi i10_2
        refine mv_icmp_geZ (tgt := 102) (a := i10_2.toInt) (b := 12) d_Fund_mixParts_28 (by decide) rfl (by decide) (fun b3 => ?_) (fun b3 => ?_)
        · refine mv_iload d_Fund_mixParts_102 rfl ?_
          have := mz_hi i9_2
          refine mv_if_ltZ (tgt := 119) (a := i9_2.toInt) d_Fund_mixParts_104 (by decide) rfl (fun b4 => ?_) (fun b4 => ?_)
          · exact mv_vret d_Fund_mixParts_119 rfl ⟨_, I_2, rfl⟩
          · refine mv_aload_n d_Fund_mixParts_107 rfl rfl ?_
            obtain ⟨a6, q5, t_a6⟩ := tm_atR I_2 h_q0_2 (k := 12) rfl
            refine tr_getK q5 d_Fund_mixParts_108 f_Fund_28_6 ?_
            refine mv_iload d_Fund_mixParts_111 rfl ?_
            refine mv_dup2_11 d_Fund_mixParts_113 rfl rfl ?_
            refine tr_iald I_2 t_a6 (by decide) d_Fund_mixParts_114 (vp_in_iff.mpr (by omega)) (fun v7 => ?_)
            refine mv_iload d_Fund_mixParts_115 rfl ?_
            refine mv_iadd d_Fund_mixParts_117 ?_
            refine tr_iastK tm_okF I_2 t_a6 (by decide) (Or.inl (by decide)) d_Fund_mixParts_118 (vp_in_iff.mpr (by omega)) (fun M8 I9 K10 => ?_)
            exact mv_vret d_Fund_mixParts_119 rfl ⟨_, I9, rfl⟩
        · refine mv_aload_n d_Fund_mixParts_31 rfl rfl ?_
          obtain ⟨a12, q11, t_a12⟩ := tm_atR I_2 h_q0_2 (k := 12) rfl
          refine tr_getK q11 d_Fund_mixParts_32 f_Fund_28_6 ?_
          refine mv_iload d_Fund_mixParts_35 rfl ?_
          refine mv_lload_n d_Fund_mixParts_37 rfl rfl ?_
          refine mv_aload_n d_Fund_mixParts_38 rfl rfl ?_
          refine tr_getK (k := 12) q11 d_Fund_mixParts_39 f_Fund_28_6 ?_
          refine mv_iload d_Fund_mixParts_42 rfl ?_
          refine tr_iald I_2 t_a12 (by decide) d_Fund_mixParts_44 (vp_in_iff.mpr (by omega)) (fun v13 => ?_)
          refine mv_i2l (v := v13.toInt64) d_Fund_mixParts_45 rfl ?_
          refine mv_lmul d_Fund_mixParts_46 ?_
          refine mv_lload d_Fund_mixParts_47 rfl ?_
          refine mv_aload_n d_Fund_mixParts_49 rfl rfl ?_
          obtain ⟨a15, q14, t_a15⟩ := tm_atR I_2 h_q3_2 (k := 12) rfl
          refine tr_getK q14 d_Fund_mixParts_50 f_Fund_28_6 ?_
          refine mv_iload d_Fund_mixParts_53 rfl ?_
          refine tr_iald I_2 t_a15 (by decide) d_Fund_mixParts_55 (vp_in_iff.mpr (by omega)) (fun v16 => ?_)
          refine mv_i2l (v := v16.toInt64) d_Fund_mixParts_56 rfl ?_
          refine mv_lmul d_Fund_mixParts_57 ?_
          refine mv_ladd d_Fund_mixParts_58 ?_
          refine mv_lload d_Fund_mixParts_59 rfl ?_
          refine mv_ldiv d_Fund_mixParts_61 (mz_lne (by omega)) ?_
          refine mv_l2i (v := (((x1 * v13.toInt64) + (x3 * v16.toInt64)) / (x1 + x3)).toInt32) d_Fund_mixParts_62 rfl ?_
          refine tr_iastK tm_okF I_2 t_a12 (by decide) (Or.inl (by decide)) d_Fund_mixParts_63 (vp_in_iff.mpr (by omega)) (fun M17 I18 K19 => ?_)
          refine mv_iload d_Fund_mixParts_64 rfl ?_
          refine mv_aload_n d_Fund_mixParts_66 rfl rfl ?_
          refine tr_getK (k := 12) (K19 _ 6 12 _ q11) d_Fund_mixParts_67 f_Fund_28_6 ?_
          refine mv_iload d_Fund_mixParts_70 rfl ?_
          refine tr_iald I18 t_a12 (by decide) d_Fund_mixParts_72 (vp_in_iff.mpr (by omega)) (fun v20 => ?_)
          refine mv_isub d_Fund_mixParts_73 ?_
          refine mv_istore (lv' := [(8, .int (i8_2 - v20)), (10, .int i10_2), (9, .int i9_2), (6, .long (x1 + x3)), (0, .ref o0), (1, .long x1), (3, .ref o2), (4, .long x3)]) d_Fund_mixParts_74 (by decide) rfl ?_
          refine mv_iload d_Fund_mixParts_76 rfl ?_
          refine mv_iconst (v := (-1)) d_Fund_mixParts_78 (by decide) ?_
          have := mz_hi i9_2
          refine mv_icmp_neZ (tgt := 96) (a := i9_2.toInt) (b := (-1)) d_Fund_mixParts_79 (by decide) rfl (by decide) (fun b21 => ?_) (fun b21 => ?_)
          · refine mv_iinc (v := (i10_2 + 1)) (lv' := [(10, .int (i10_2 + 1)), (8, .int (i8_2 - v20)), (9, .int i9_2), (6, .long (x1 + x3)), (0, .ref o0), (1, .long x1), (3, .ref o2), (4, .long x3)]) d_Fund_mixParts_96 rfl rfl (by decide) rfl ?_
            refine mv_goto (tgt := 24) d_Fund_mixParts_99 (by decide) ?_
            refine mv_locals (lv' := [(10, .int (i10_2 + 1)), (9, .int i9_2), (8, .int (i8_2 - v20)), (6, .long (x1 + x3)), (0, .ref o0), (1, .long x1), (3, .ref o2), (4, .long x3)]) (by intro q hq; simp only [List.mem_cons, List.not_mem_nil, or_false] at hq; rcases hq with rfl | rfl | rfl | rfl | rfl | rfl | rfl | rfl <;> rfl) ?_
            have b22 : (i10_2 + 1).toInt = i10_2.toInt + 1 := mz_addn 1 1 (by decide) (by have := mz_lo i10_2; omega) (by have := mz_hi i10_2; omega)
            exact (ih2 (i10_2 + 1) i9_2 (i8_2 - v20) T_2 M17 n_2 I18 h_q0_2 h_q3_2 (by first | omega | decide) (by first | omega | decide) (by omega))
          · refine mv_aload_n d_Fund_mixParts_82 rfl rfl ?_
            refine tr_getK (k := 12) (K19 _ 6 12 _ q11) d_Fund_mixParts_83 f_Fund_28_6 ?_
            refine mv_iload d_Fund_mixParts_86 rfl ?_
            refine tr_iald I18 t_a12 (by decide) d_Fund_mixParts_88 (vp_in_iff.mpr (by omega)) (fun v23 => ?_)
            have := mz_hi v23
            refine mv_if_leZ (tgt := 96) (a := v23.toInt) d_Fund_mixParts_89 (by decide) rfl (fun b24 => ?_) (fun b24 => ?_)
            · refine mv_iinc (v := (i10_2 + 1)) (lv' := [(10, .int (i10_2 + 1)), (8, .int (i8_2 - v20)), (9, .int i9_2), (6, .long (x1 + x3)), (0, .ref o0), (1, .long x1), (3, .ref o2), (4, .long x3)]) d_Fund_mixParts_96 rfl rfl (by decide) rfl ?_
              refine mv_goto (tgt := 24) d_Fund_mixParts_99 (by decide) ?_
              refine mv_locals (lv' := [(10, .int (i10_2 + 1)), (9, .int i9_2), (8, .int (i8_2 - v20)), (6, .long (x1 + x3)), (0, .ref o0), (1, .long x1), (3, .ref o2), (4, .long x3)]) (by intro q hq; simp only [List.mem_cons, List.not_mem_nil, or_false] at hq; rcases hq with rfl | rfl | rfl | rfl | rfl | rfl | rfl | rfl <;> rfl) ?_
              have b25 : (i10_2 + 1).toInt = i10_2.toInt + 1 := mz_addn 1 1 (by decide) (by have := mz_lo i10_2; omega) (by have := mz_hi i10_2; omega)
              exact (ih2 (i10_2 + 1) i9_2 (i8_2 - v20) T_2 M17 n_2 I18 h_q0_2 h_q3_2 (by first | omega | decide) (by first | omega | decide) (by omega))
            · refine mv_iload d_Fund_mixParts_92 rfl ?_
              refine mv_istore (lv' := [(9, .int i10_2), (8, .int (i8_2 - v20)), (10, .int i10_2), (6, .long (x1 + x3)), (0, .ref o0), (1, .long x1), (3, .ref o2), (4, .long x3)]) d_Fund_mixParts_94 (by decide) rfl ?_
              refine mv_iinc (v := (i10_2 + 1)) (lv' := [(10, .int (i10_2 + 1)), (9, .int i10_2), (8, .int (i8_2 - v20)), (6, .long (x1 + x3)), (0, .ref o0), (1, .long x1), (3, .ref o2), (4, .long x3)]) d_Fund_mixParts_96 rfl rfl (by decide) rfl ?_
              refine mv_goto (tgt := 24) d_Fund_mixParts_99 (by decide) ?_
              have b26 : (i10_2 + 1).toInt = i10_2.toInt + 1 := mz_addn 1 1 (by decide) (by have := mz_lo i10_2; omega) (by have := mz_hi i10_2; omega)
              exact (ih2 (i10_2 + 1) i10_2 (i8_2 - v20) T_2 M17 n_2 I18 h_q0_2 h_q3_2 (by first | omega | decide) (by first | omega | decide) (by omega))
    exact mv_less (Nat.zero_le _) (Nat.zero_le _) (L24_2 4294967296 0 (-1) 1000000 T0 M0 n0 I0 h_o0 h_o2 (by first | omega | decide) (by first | omega | decide) (by show (2147483647 - (0 : Int) : Int) < _; decide))
  · exact mv_vret d_Fund_mixParts_13 rfl ⟨_, I0, rfl⟩
