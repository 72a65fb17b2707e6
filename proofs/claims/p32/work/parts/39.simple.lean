abbrev kY_TrustDeskModel_end : mj_Y := (⟨"TrustDeskModel", "end", "(I)I"⟩, prog_14_method_12_code, 2, (Option.some Jvm.ClassFile.FieldType.int))
theorem d_TrustDeskModel_end_0 : decode kY_TrustDeskModel_end.2.1 0 = .ok (.aload_n 0, 1) := by decide +kernel
theorem d_TrustDeskModel_end_1 : decode kY_TrustDeskModel_end.2.1 1 = .ok (.iconst 0, 1) := by decide +kernel
theorem d_TrustDeskModel_end_2 : decode kY_TrustDeskModel_end.2.1 2 = .ok (.putfield 1, 3) := by decide +kernel
theorem d_TrustDeskModel_end_5 : decode kY_TrustDeskModel_end.2.1 5 = .ok (.iload_n 1, 1) := by decide +kernel
theorem d_TrustDeskModel_end_6 : decode kY_TrustDeskModel_end.2.1 6 = .ok (.ifCond .lt 11, 3) := by decide +kernel
theorem d_TrustDeskModel_end_17 : decode kY_TrustDeskModel_end.2.1 17 = .ok (.iconst (-1), 1) := by decide +kernel
theorem d_TrustDeskModel_end_18 : decode kY_TrustDeskModel_end.2.1 18 = .ok (.ireturn, 1) := by decide +kernel
theorem d_TrustDeskModel_end_9 : decode kY_TrustDeskModel_end.2.1 9 = .ok (.iload_n 1, 1) := by decide +kernel
theorem d_TrustDeskModel_end_10 : decode kY_TrustDeskModel_end.2.1 10 = .ok (.aload_n 0, 1) := by decide +kernel
theorem d_TrustDeskModel_end_11 : decode kY_TrustDeskModel_end.2.1 11 = .ok (.getfield 189, 3) := by decide +kernel
theorem d_TrustDeskModel_end_14 : decode kY_TrustDeskModel_end.2.1 14 = .ok (.if_icmp .le 5, 3) := by decide +kernel
theorem d_TrustDeskModel_end_19 : decode kY_TrustDeskModel_end.2.1 19 = .ok (.aload_n 0, 1) := by decide +kernel
theorem d_TrustDeskModel_end_20 : decode kY_TrustDeskModel_end.2.1 20 = .ok (.iload_n 1, 1) := by decide +kernel
theorem d_TrustDeskModel_end_21 : decode kY_TrustDeskModel_end.2.1 21 = .ok (.putfield 189, 3) := by decide +kernel
theorem d_TrustDeskModel_end_24 : decode kY_TrustDeskModel_end.2.1 24 = .ok (.iload_n 1, 1) := by decide +kernel
theorem d_TrustDeskModel_end_25 : decode kY_TrustDeskModel_end.2.1 25 = .ok (.ireturn, 1) := by decide +kernel
abbrev kY_TrustDeskModel_place : mj_Y := (⟨"TrustDeskModel", "place", "()I"⟩, prog_14_method_43_code, 1, (Option.some Jvm.ClassFile.FieldType.int))
theorem d_TrustDeskModel_place_0 : decode kY_TrustDeskModel_place.2.1 0 = .ok (.aload_n 0, 1) := by decide +kernel
theorem d_TrustDeskModel_place_1 : decode kY_TrustDeskModel_place.2.1 1 = .ok (.iconst 0, 1) := by decide +kernel
theorem d_TrustDeskModel_place_2 : decode kY_TrustDeskModel_place.2.1 2 = .ok (.putfield 1, 3) := by decide +kernel
theorem d_TrustDeskModel_place_5 : decode kY_TrustDeskModel_place.2.1 5 = .ok (.aload_n 0, 1) := by decide +kernel
theorem d_TrustDeskModel_place_6 : decode kY_TrustDeskModel_place.2.1 6 = .ok (.getfield 48, 3) := by decide +kernel
theorem f_TrustDeskModel_48_13 : mj_fl "TrustDeskModel" 48 13 21 := ⟨kR_TrustDeskModel, kF_TrustDeskModel, 72, "TrustDeskModel", rfl, kg_13, by decide, (mj_in1 (List.mem_of_getElem? (i := 1407) (by decide +kernel)) rfl), Or.inl rfl⟩
theorem d_TrustDeskModel_place_9 : decode kY_TrustDeskModel_place.2.1 9 = .ok (.ireturn, 1) := by decide +kernel
abbrev kY_TrustDeskModel_trustee : mj_Y := (⟨"TrustDeskModel", "trustee", "(II)Z"⟩, prog_14_method_70_code, 3, (Option.some Jvm.ClassFile.FieldType.boolean))
theorem d_TrustDeskModel_trustee_0 : decode kY_TrustDeskModel_trustee.2.1 0 = .ok (.aload_n 0, 1) := by decide +kernel
theorem d_TrustDeskModel_trustee_1 : decode kY_TrustDeskModel_trustee.2.1 1 = .ok (.iconst 0, 1) := by decide +kernel
theorem d_TrustDeskModel_trustee_2 : decode kY_TrustDeskModel_trustee.2.1 2 = .ok (.putfield 1, 3) := by decide +kernel
theorem d_TrustDeskModel_trustee_5 : decode kY_TrustDeskModel_trustee.2.1 5 = .ok (.aload_n 0, 1) := by decide +kernel
theorem d_TrustDeskModel_trustee_6 : decode kY_TrustDeskModel_trustee.2.1 6 = .ok (.iload_n 1, 1) := by decide +kernel
theorem d_TrustDeskModel_trustee_7 : decode kY_TrustDeskModel_trustee.2.1 7 = .ok (.invokevirtual 492, 3) := by decide +kernel
abbrev kY_TrustDeskModel_isFree : mj_Y := (⟨"TrustDeskModel", "isFree", "(I)Z"⟩, prog_14_method_52_code, 2, (Option.some Jvm.ClassFile.FieldType.boolean))
theorem lV_TrustDeskModel_492 : mj_lV "TrustDeskModel" 492 kY_TrustDeskModel_isFree 1 := ⟨⟨(mj_in1 (List.mem_of_getElem? (i := 1905) (by decide +kernel)) rfl), (mj_in1 (List.mem_of_getElem? (i := 10) (by decide +kernel)) rfl), (mj_in1 (List.mem_of_getElem? (i := 1908) (by decide +kernel)) rfl), by decide, rfl, by decide⟩, (mj_in1 (List.mem_of_getElem? (i := 1907) (by decide +kernel)) rfl), (mj_in (List.mem_append_left _ (List.mem_of_getElem? (i := 122) (by decide +kernel))) rfl)⟩
theorem d_TrustDeskModel_isFree_0 : decode kY_TrustDeskModel_isFree.2.1 0 = .ok (.aload_n 0, 1) := by decide +kernel
theorem d_TrustDeskModel_isFree_1 : decode kY_TrustDeskModel_isFree.2.1 1 = .ok (.iload_n 1, 1) := by decide +kernel
theorem d_TrustDeskModel_isFree_2 : decode kY_TrustDeskModel_isFree.2.1 2 = .ok (.invokevirtual 418, 3) := by decide +kernel
theorem d_TrustDeskModel_isFree_5 : decode kY_TrustDeskModel_isFree.2.1 5 = .ok (.ifCond .eq 17, 3) := by decide +kernel
theorem d_TrustDeskModel_isFree_22 : decode kY_TrustDeskModel_isFree.2.1 22 = .ok (.iconst 0, 1) := by decide +kernel
theorem d_TrustDeskModel_isFree_23 : decode kY_TrustDeskModel_isFree.2.1 23 = .ok (.ireturn, 1) := by decide +kernel
theorem d_TrustDeskModel_trustee_10 : decode kY_TrustDeskModel_trustee.2.1 10 = .ok (.ifCond .eq 38, 3) := by decide +kernel
theorem d_TrustDeskModel_trustee_48 : decode kY_TrustDeskModel_trustee.2.1 48 = .ok (.iconst 0, 1) := by decide +kernel
theorem d_TrustDeskModel_trustee_49 : decode kY_TrustDeskModel_trustee.2.1 49 = .ok (.ireturn, 1) := by decide +kernel
theorem d_TrustDeskModel_isFree_8 : decode kY_TrustDeskModel_isFree.2.1 8 = .ok (.aload_n 0, 1) := by decide +kernel
theorem d_TrustDeskModel_isFree_9 : decode kY_TrustDeskModel_isFree.2.1 9 = .ok (.getfield 79, 3) := by decide +kernel
theorem d_TrustDeskModel_isFree_12 : decode kY_TrustDeskModel_isFree.2.1 12 = .ok (.iload_n 1, 1) := by decide +kernel
theorem d_TrustDeskModel_isFree_13 : decode kY_TrustDeskModel_isFree.2.1 13 = .ok (.iaload, 1) := by decide +kernel
theorem d_TrustDeskModel_isFree_14 : decode kY_TrustDeskModel_isFree.2.1 14 = .ok (.iconst (-1), 1) := by decide +kernel
theorem d_TrustDeskModel_isFree_15 : decode kY_TrustDeskModel_isFree.2.1 15 = .ok (.if_icmp .ne 7, 3) := by decide +kernel
theorem d_TrustDeskModel_isFree_18 : decode kY_TrustDeskModel_isFree.2.1 18 = .ok (.iconst 1, 1) := by decide +kernel
theorem d_TrustDeskModel_isFree_19 : decode kY_TrustDeskModel_isFree.2.1 19 = .ok (.goto 4, 3) := by decide +kernel
theorem d_TrustDeskModel_trustee_13 : decode kY_TrustDeskModel_trustee.2.1 13 = .ok (.iload_n 2, 1) := by decide +kernel
theorem d_TrustDeskModel_trustee_14 : decode kY_TrustDeskModel_trustee.2.1 14 = .ok (.invokestatic 495, 3) := by decide +kernel
abbrev kY_TrustDeskModel_isPerson : mj_Y := (⟨"TrustDeskModel", "isPerson", "(I)Z"⟩, prog_14_method_68_code, 1, (Option.some Jvm.ClassFile.FieldType.boolean))
theorem lS_TrustDeskModel_495 : mj_lS "TrustDeskModel" 495 kY_TrustDeskModel_isPerson 1 := ⟨⟨(mj_in1 (List.mem_of_getElem? (i := 1909) (by decide +kernel)) rfl), (mj_in1 (List.mem_of_getElem? (i := 10) (by decide +kernel)) rfl), (mj_in1 (List.mem_of_getElem? (i := 1911) (by decide +kernel)) rfl), by decide, rfl, by decide⟩, (mj_in1 (List.mem_of_getElem? (i := 1910) (by decide +kernel)) rfl)⟩
theorem d_TrustDeskModel_isPerson_0 : decode kY_TrustDeskModel_isPerson.2.1 0 = .ok (.iload_n 0, 1) := by decide +kernel
theorem d_TrustDeskModel_isPerson_1 : decode kY_TrustDeskModel_isPerson.2.1 1 = .ok (.ifCond .lt 13, 3) := by decide +kernel
theorem d_TrustDeskModel_isPerson_14 : decode kY_TrustDeskModel_isPerson.2.1 14 = .ok (.iconst 0, 1) := by decide +kernel
theorem d_TrustDeskModel_isPerson_15 : decode kY_TrustDeskModel_isPerson.2.1 15 = .ok (.ireturn, 1) := by decide +kernel
theorem d_TrustDeskModel_trustee_17 : decode kY_TrustDeskModel_trustee.2.1 17 = .ok (.ifCond .eq 31, 3) := by decide +kernel
theorem d_TrustDeskModel_isPerson_4 : decode kY_TrustDeskModel_isPerson.2.1 4 = .ok (.iload_n 0, 1) := by decide +kernel
theorem d_TrustDeskModel_isPerson_5 : decode kY_TrustDeskModel_isPerson.2.1 5 = .ok (.bipush 100, 2) := by decide +kernel
theorem d_TrustDeskModel_isPerson_7 : decode kY_TrustDeskModel_isPerson.2.1 7 = .ok (.if_icmp .ge 7, 3) := by decide +kernel
theorem d_TrustDeskModel_isPerson_10 : decode kY_TrustDeskModel_isPerson.2.1 10 = .ok (.iconst 1, 1) := by decide +kernel
theorem d_TrustDeskModel_isPerson_11 : decode kY_TrustDeskModel_isPerson.2.1 11 = .ok (.goto 4, 3) := by decide +kernel
theorem d_TrustDeskModel_trustee_20 : decode kY_TrustDeskModel_trustee.2.1 20 = .ok (.aload_n 0, 1) := by decide +kernel
theorem d_TrustDeskModel_trustee_21 : decode kY_TrustDeskModel_trustee.2.1 21 = .ok (.getfield 88, 3) := by decide +kernel
theorem d_TrustDeskModel_trustee_24 : decode kY_TrustDeskModel_trustee.2.1 24 = .ok (.bipush 100, 2) := by decide +kernel
theorem d_TrustDeskModel_trustee_26 : decode kY_TrustDeskModel_trustee.2.1 26 = .ok (.iload_n 1, 1) := by decide +kernel
theorem d_TrustDeskModel_trustee_27 : decode kY_TrustDeskModel_trustee.2.1 27 = .ok (.imul, 1) := by decide +kernel
theorem d_TrustDeskModel_trustee_28 : decode kY_TrustDeskModel_trustee.2.1 28 = .ok (.iload_n 2, 1) := by decide +kernel
theorem d_TrustDeskModel_trustee_29 : decode kY_TrustDeskModel_trustee.2.1 29 = .ok (.iadd, 1) := by decide +kernel
theorem d_TrustDeskModel_trustee_30 : decode kY_TrustDeskModel_trustee.2.1 30 = .ok (.baload, 1) := by decide +kernel
theorem d_TrustDeskModel_trustee_31 : decode kY_TrustDeskModel_trustee.2.1 31 = .ok (.ifCond .ne 17, 3) := by decide +kernel
theorem d_TrustDeskModel_trustee_34 : decode kY_TrustDeskModel_trustee.2.1 34 = .ok (.aload_n 0, 1) := by decide +kernel
theorem d_TrustDeskModel_trustee_35 : decode kY_TrustDeskModel_trustee.2.1 35 = .ok (.iload_n 1, 1) := by decide +kernel
theorem d_TrustDeskModel_trustee_36 : decode kY_TrustDeskModel_trustee.2.1 36 = .ok (.invokevirtual 498, 3) := by decide +kernel
theorem lV_TrustDeskModel_498 : mj_lV "TrustDeskModel" 498 kY_TrustDeskModel_trustees 1 := ⟨⟨(mj_in1 (List.mem_of_getElem? (i := 1912) (by decide +kernel)) rfl), (mj_in1 (List.mem_of_getElem? (i := 10) (by decide +kernel)) rfl), (mj_in1 (List.mem_of_getElem? (i := 1915) (by decide +kernel)) rfl), by decide, rfl, by decide⟩, (mj_in1 (List.mem_of_getElem? (i := 1914) (by decide +kernel)) rfl), (mj_in (List.mem_append_left _ (List.mem_of_getElem? (i := 123) (by decide +kernel))) rfl)⟩
theorem d_TrustDeskModel_trustee_39 : decode kY_TrustDeskModel_trustee.2.1 39 = .ok (.aload_n 0, 1) := by decide +kernel
theorem d_TrustDeskModel_trustee_40 : decode kY_TrustDeskModel_trustee.2.1 40 = .ok (.getfield 82, 3) := by decide +kernel
theorem d_TrustDeskModel_trustee_43 : decode kY_TrustDeskModel_trustee.2.1 43 = .ok (.iload_n 1, 1) := by decide +kernel
theorem d_TrustDeskModel_trustee_44 : decode kY_TrustDeskModel_trustee.2.1 44 = .ok (.iaload, 1) := by decide +kernel
theorem d_TrustDeskModel_trustee_45 : decode kY_TrustDeskModel_trustee.2.1 45 = .ok (.if_icmp .ne 5, 3) := by decide +kernel
theorem d_TrustDeskModel_trustee_50 : decode kY_TrustDeskModel_trustee.2.1 50 = .ok (.aload_n 0, 1) := by decide +kernel
theorem d_TrustDeskModel_trustee_51 : decode kY_TrustDeskModel_trustee.2.1 51 = .ok (.getfield 88, 3) := by decide +kernel
theorem d_TrustDeskModel_trustee_54 : decode kY_TrustDeskModel_trustee.2.1 54 = .ok (.bipush 100, 2) := by decide +kernel
theorem d_TrustDeskModel_trustee_56 : decode kY_TrustDeskModel_trustee.2.1 56 = .ok (.iload_n 1, 1) := by decide +kernel
theorem d_TrustDeskModel_trustee_57 : decode kY_TrustDeskModel_trustee.2.1 57 = .ok (.imul, 1) := by decide +kernel
theorem d_TrustDeskModel_trustee_58 : decode kY_TrustDeskModel_trustee.2.1 58 = .ok (.iload_n 2, 1) := by decide +kernel
theorem d_TrustDeskModel_trustee_59 : decode kY_TrustDeskModel_trustee.2.1 59 = .ok (.iadd, 1) := by decide +kernel
theorem d_TrustDeskModel_trustee_60 : decode kY_TrustDeskModel_trustee.2.1 60 = .ok (.iconst 1, 1) := by decide +kernel
theorem d_TrustDeskModel_trustee_61 : decode kY_TrustDeskModel_trustee.2.1 61 = .ok (.bastore, 1) := by decide +kernel
theorem d_TrustDeskModel_trustee_62 : decode kY_TrustDeskModel_trustee.2.1 62 = .ok (.iconst 1, 1) := by decide +kernel
theorem d_TrustDeskModel_trustee_63 : decode kY_TrustDeskModel_trustee.2.1 63 = .ok (.ireturn, 1) := by decide +kernel
def w_TrustDeskModel_trustee_x : List Nat := [1300, 20040]
set_option maxHeartbeats 100000000 in theorem tc_TrustDeskModel_trustee_x {g : mj_G} {l : Launch} {d : Nat} {T0 : tm_H} {M0 : mj_M} {n0 x9 : Nat} {o0 : Nat} {x1 : Int32} {x2 : Int32} (h_o0 : T0 o0 = some (0, 13, 0)) (yR : rI M0 o0) (I0 : tm_I tm_FT (tm_in w_TrustDeskModel_trustee_x) x9 T0 M0 n0 T0 M0 n0) : mj_Met g l kY_TrustDeskModel_trustee (d + 2) [.ref o0, .int x1, .int x2] M0 n0 0 0 (tm_Q tm_FT (tm_in w_TrustDeskModel_trustee_x) x9 T0 M0 n0 (fun r _ M => ∃ v : Int32, r = some (.int v) ∧ 0 ≤ v.toInt ∧ v.toInt ≤ 1 ∧ rI M o0)) := by
  refine mj_enter (by decide) (Nat.le_of_ble_eq_true rfl) ?_
  refine mv_aload_n d_TrustDeskModel_trustee_0 rfl rfl ?_
  refine mv_iconst (v := 0) d_TrustDeskModel_trustee_1 (by decide) ?_
  refine tr_putR (k := 0) I0 yR h_o0 rfl ⟨_, rfl⟩ (fun _ h => by cases h) rfl (fun lo hi h => by cases h) (Or.inl (by decide)) d_TrustDeskModel_trustee_2 p_TrustDeskModel_1_13 rfl rfl (fun M1 I2 q3 K4 R5 A6 V7 => ?_)
  refine mv_aload_n d_TrustDeskModel_trustee_5 rfl rfl ?_
  refine mv_iload_n d_TrustDeskModel_trustee_6 rfl rfl ?_
  obtain ⟨_, b8, -⟩ := I2.1 _ _ h_o0
  refine mv_callV (kc1 := 0) (ks1 := 0) (kc' := 0) (ks' := 0) (As := [.int x1]) (st9 := [.int x1, .ref o0]) d_TrustDeskModel_trustee_7 lV_TrustDeskModel_492 b8 rfl (mj_enter (by decide) (Nat.le_of_ble_eq_true rfl) ?_) rfl (Nat.le_of_ble_eq_true rfl) (Nat.le_of_ble_eq_true rfl) (Nat.le_of_ble_eq_true rfl) (hst := rfl) (fun _ _ _ h => h)
  refine mv_aload_n d_TrustDeskModel_isFree_0 rfl rfl ?_
  refine mv_iload_n d_TrustDeskModel_isFree_1 rfl rfl ?_
  obtain ⟨_, b9, -⟩ := I2.1 _ _ h_o0
  refine mv_callV (kc1 := 0) (ks1 := 0) (kc' := 0) (ks' := 0) (As := [.int x1]) (st9 := [.int x1, .ref o0]) d_TrustDeskModel_isFree_2 lV_TrustDeskModel_418 b9 rfl (mj_enter (by decide) (Nat.le_of_ble_eq_true rfl) ?_) rfl (Nat.le_of_ble_eq_true rfl) (Nat.le_of_ble_eq_true rfl) (Nat.le_of_ble_eq_true rfl) (hst := rfl) (fun _ _ _ h => h)
  refine mv_iload_n d_TrustDeskModel_isFund_0 rfl rfl ?_
  have := mz_hi x1
  refine mv_if_ltZ (tgt := 16) (a := x1.toInt) d_TrustDeskModel_isFund_1 (by decide) rfl (fun b10 => ?_) (fun b10 => ?_)
  · refine mv_iconst (v := 0) d_TrustDeskModel_isFund_16 (by decide) ?_
    refine mv_iret d_TrustDeskModel_isFund_17 rfl (by decide) ?_
    refine mv_if_eq_t (tgt := 22) d_TrustDeskModel_isFree_5 (by decide) (by decide) ?_
    refine mv_iconst (v := 0) d_TrustDeskModel_isFree_22 (by decide) ?_
    refine mv_iret d_TrustDeskModel_isFree_23 rfl (by decide) ?_
    refine mv_if_eq_t (tgt := 48) d_TrustDeskModel_trustee_10 (by decide) (by decide) ?_
    refine mv_iconst (v := 0) d_TrustDeskModel_trustee_48 (by decide) ?_
    exact mv_iret d_TrustDeskModel_trustee_49 rfl (by decide) ⟨_, I2, _, rfl, by decide, by decide, R5⟩
  · refine mv_iload_n d_TrustDeskModel_isFund_4 rfl rfl ?_
    refine mv_aload_n d_TrustDeskModel_isFund_5 rfl rfl ?_
    obtain ⟨v12, q11⟩ := tm_atI I2 h_o0 (k := 32) rfl
    refine tr_getK q11 d_TrustDeskModel_isFund_6 f_TrustDeskModel_415_13 ?_
    have := R5.f (k := 32) q11 rfl
    have := mz_hi x1
    have := mz_hi v12
    refine mv_icmp_geZ (tgt := 16) (a := x1.toInt) (b := v12.toInt) d_TrustDeskModel_isFund_9 (by decide) rfl rfl (fun b13 => ?_) (fun b13 => ?_)
    · refine mv_iconst (v := 0) d_TrustDeskModel_isFund_16 (by decide) ?_
      refine mv_iret d_TrustDeskModel_isFund_17 rfl (by decide) ?_
      refine mv_if_eq_t (tgt := 22) d_TrustDeskModel_isFree_5 (by decide) (by decide) ?_
      refine mv_iconst (v := 0) d_TrustDeskModel_isFree_22 (by decide) ?_
      refine mv_iret d_TrustDeskModel_isFree_23 rfl (by decide) ?_
      refine mv_if_eq_t (tgt := 48) d_TrustDeskModel_trustee_10 (by decide) (by decide) ?_
      refine mv_iconst (v := 0) d_TrustDeskModel_trustee_48 (by decide) ?_
      exact mv_iret d_TrustDeskModel_trustee_49 rfl (by decide) ⟨_, I2, _, rfl, by decide, by decide, R5⟩
    · refine mv_iconst (v := 1) d_TrustDeskModel_isFund_12 (by decide) ?_
      refine mv_goto (tgt := 17) d_TrustDeskModel_isFund_13 (by decide) ?_
      refine mv_iret d_TrustDeskModel_isFund_17 rfl (by decide) ?_
      refine mv_if_eq_f (tgt := 22) d_TrustDeskModel_isFree_5 (by decide) (by decide) ?_
      refine mv_aload_n d_TrustDeskModel_isFree_8 rfl rfl ?_
      obtain ⟨a15, q14, t_a15⟩ := tm_atR I2 h_o0 (k := 37) rfl
      refine tr_getK q14 d_TrustDeskModel_isFree_9 f_TrustDeskModel_79_13 ?_
      refine mv_iload_n d_TrustDeskModel_isFree_12 rfl rfl ?_
      refine tr_ialdR (o := o0) (k := 37) I2 q14 t_a15 (by decide) d_TrustDeskModel_isFree_13 (vp_in_iff.mpr (by omega)) (fun v16 e17 => ?_)
      have := R5.a (k := 37) rfl (x1 : Int32).toNatClampNeg
      refine mv_iconst (v := (-1)) d_TrustDeskModel_isFree_14 (by decide) ?_
      have := mz_hi v16
      refine mv_icmp_neZ (tgt := 22) (a := v16.toInt) (b := (-1)) d_TrustDeskModel_isFree_15 (by decide) rfl (by decide) (fun b18 => ?_) (fun b18 => ?_)
      · refine mv_iconst (v := 0) d_TrustDeskModel_isFree_22 (by decide) ?_
        refine mv_iret d_TrustDeskModel_isFree_23 rfl (by decide) ?_
        refine mv_if_eq_t (tgt := 48) d_TrustDeskModel_trustee_10 (by decide) (by decide) ?_
        refine mv_iconst (v := 0) d_TrustDeskModel_trustee_48 (by decide) ?_
        exact mv_iret d_TrustDeskModel_trustee_49 rfl (by decide) ⟨_, I2, _, rfl, by decide, by decide, R5⟩
      · refine mv_iconst (v := 1) d_TrustDeskModel_isFree_18 (by decide) ?_
        refine mv_goto (tgt := 23) d_TrustDeskModel_isFree_19 (by decide) ?_
        refine mv_iret d_TrustDeskModel_isFree_23 rfl (by decide) ?_
        refine mv_if_eq_f (tgt := 48) d_TrustDeskModel_trustee_10 (by decide) (by decide) ?_
        refine mv_iload_n d_TrustDeskModel_trustee_13 rfl rfl ?_
        refine mv_callS (kc1 := 0) (ks1 := 0) (kc' := 0) (ks' := 0) (As := [.int x2]) (st9 := [.int x2]) d_TrustDeskModel_trustee_14 lS_TrustDeskModel_495 (mj_enter (by decide) (Nat.le_of_ble_eq_true rfl) ?_) rfl (Nat.le_of_ble_eq_true rfl) (Nat.le_of_ble_eq_true rfl) (Nat.le_of_ble_eq_true rfl) (hst := rfl) (fun _ _ _ h => h)
        refine mv_iload_n d_TrustDeskModel_isPerson_0 rfl rfl ?_
        have := mz_hi x2
        refine mv_if_ltZ (tgt := 14) (a := x2.toInt) d_TrustDeskModel_isPerson_1 (by decide) rfl (fun b19 => ?_) (fun b19 => ?_)
        · refine mv_iconst (v := 0) d_TrustDeskModel_isPerson_14 (by decide) ?_
          refine mv_iret d_TrustDeskModel_isPerson_15 rfl (by decide) ?_
          refine mv_if_eq_t (tgt := 48) d_TrustDeskModel_trustee_17 (by decide) (by decide) ?_
          refine mv_iconst (v := 0) d_TrustDeskModel_trustee_48 (by decide) ?_
          exact mv_iret d_TrustDeskModel_trustee_49 rfl (by decide) ⟨_, I2, _, rfl, by decide, by decide, R5⟩
        · refine mv_iload_n d_TrustDeskModel_isPerson_4 rfl rfl ?_
          refine mv_bipush (v := 100) d_TrustDeskModel_isPerson_5 (by decide) ?_
          have := mz_hi x2
          refine mv_icmp_geZ (tgt := 14) (a := x2.toInt) (b := 100) d_TrustDeskModel_isPerson_7 (by decide) rfl (by decide) (fun b20 => ?_) (fun b20 => ?_)
          · refine mv_iconst (v := 0) d_TrustDeskModel_isPerson_14 (by decide) ?_
            refine mv_iret d_TrustDeskModel_isPerson_15 rfl (by decide) ?_
            refine mv_if_eq_t (tgt := 48) d_TrustDeskModel_trustee_17 (by decide) (by decide) ?_
            refine mv_iconst (v := 0) d_TrustDeskModel_trustee_48 (by decide) ?_
            exact mv_iret d_TrustDeskModel_trustee_49 rfl (by decide) ⟨_, I2, _, rfl, by decide, by decide, R5⟩
          · refine mv_iconst (v := 1) d_TrustDeskModel_isPerson_10 (by decide) ?_
            refine mv_goto (tgt := 15) d_TrustDeskModel_isPerson_11 (by decide) ?_
            refine mv_iret d_TrustDeskModel_isPerson_15 rfl (by decide) ?_
            refine mv_if_eq_f (tgt := 48) d_TrustDeskModel_trustee_17 (by decide) (by decide) ?_
            refine mv_aload_n d_TrustDeskModel_trustee_20 rfl rfl ?_
            obtain ⟨a22, q21, t_a22⟩ := tm_atR I2 h_o0 (k := 40) rfl
            refine tr_getK q21 d_TrustDeskModel_trustee_21 f_TrustDeskModel_88_13 ?_
            refine mv_bipush (v := 100) d_TrustDeskModel_trustee_24 (by decide) ?_
            refine mv_iload_n d_TrustDeskModel_trustee_26 rfl rfl ?_
            refine mv_imul d_TrustDeskModel_trustee_27 ?_
            refine mv_iload_n d_TrustDeskModel_trustee_28 rfl rfl ?_
            refine mv_iadd d_TrustDeskModel_trustee_29 ?_
            have b23 : (100 * x1 : Int32).toInt = (100 * x1.toInt) := mz_mul2 (by decide) rfl (by omega) (by omega)
            have b24 : ((100 * x1) + x2 : Int32).toInt = ((100 * x1.toInt) + x2.toInt) := mz_add2 b23 rfl (by omega) (by omega)
            refine tr_zaldR (o := o0) (k := 40) I2 q21 t_a22 (by decide) d_TrustDeskModel_trustee_30 (vp_in_iff.mpr (by omega)) (fun v25 e26 => ?_)
            have := mz_hi v25
            refine mv_if_neZ (tgt := 48) (a := v25.toInt) d_TrustDeskModel_trustee_31 (by decide) rfl (fun b27 => ?_) (fun b27 => ?_)
            · refine mv_iconst (v := 0) d_TrustDeskModel_trustee_48 (by decide) ?_
              exact mv_iret d_TrustDeskModel_trustee_49 rfl (by decide) ⟨_, I2, _, rfl, by decide, by decide, R5⟩
            · refine mv_aload_n d_TrustDeskModel_trustee_34 rfl rfl ?_
              refine mv_iload_n d_TrustDeskModel_trustee_35 rfl rfl ?_
              obtain ⟨_, b34, -⟩ := I2.1 _ _ h_o0
              refine mv_callV (kc' := 0) (ks' := 0) (As := [.int x1]) (st9 := [.int x1, .ref o0]) d_TrustDeskModel_trustee_36 lV_TrustDeskModel_498 b34 rfl (tc_TrustDeskModel_trustees_x (d := (d + 1)) (x9 := x9) (o0 := o0) (x1 := x1) h_o0 (by omega) R5 I2.start) rfl (Nat.le_of_ble_eq_true rfl) (Nat.le_of_ble_eq_true rfl) (Nat.le_of_ble_eq_true rfl) (hst := rfl) (fun b28r M29 n30 b28 => ?_)
              obtain ⟨T31, J32, v35, rfl, R36⟩ := b28
              have I33 := I2.call J32 (tm_sub (by decide)) (Or.inl rfl)
              have t37 := J32.up h_o0
              have q38 := J32.keep h_o0 (by decide) q3
              have q39 := J32.keep h_o0 (by decide) q11
              have q40 := J32.keep h_o0 (by decide) q14
              have t41 := J32.up t_a15
              have q42 := J32.keep h_o0 (by decide) q21
              have t43 := J32.up t_a22
              refine mv_aload_n d_TrustDeskModel_trustee_39 rfl rfl ?_
              obtain ⟨a45, q44, t_a45⟩ := tm_atR I33 t37 (k := 38) rfl
              refine tr_getK q44 d_TrustDeskModel_trustee_40 f_TrustDeskModel_82_13 ?_
              refine mv_iload_n d_TrustDeskModel_trustee_43 rfl rfl ?_
              refine tr_ialdR (o := o0) (k := 38) I33 q44 t_a45 (by decide) d_TrustDeskModel_trustee_44 (vp_in_iff.mpr (by omega)) (fun v46 e47 => ?_)
              have := mz_hi v35
              have := mz_hi v46
              refine mv_icmp_neZ (tgt := 50) (a := v35.toInt) (b := v46.toInt) d_TrustDeskModel_trustee_45 (by decide) rfl rfl (fun b48 => ?_) (fun b48 => ?_)
              · refine mv_aload_n d_TrustDeskModel_trustee_50 rfl rfl ?_
                refine tr_getK (k := 40) q42 d_TrustDeskModel_trustee_51 f_TrustDeskModel_88_13 ?_
                refine mv_bipush (v := 100) d_TrustDeskModel_trustee_54 (by decide) ?_
                refine mv_iload_n d_TrustDeskModel_trustee_56 rfl rfl ?_
                refine mv_imul d_TrustDeskModel_trustee_57 ?_
                refine mv_iload_n d_TrustDeskModel_trustee_58 rfl rfl ?_
                refine mv_iadd d_TrustDeskModel_trustee_59 ?_
                refine mv_iconst (v := 1) d_TrustDeskModel_trustee_60 (by decide) ?_
                have b49 : (100 * x1 : Int32).toInt = (100 * x1.toInt) := mz_mul2 (by decide) rfl (by omega) (by omega)
                have b50 : ((100 * x1) + x2 : Int32).toInt = ((100 * x1.toInt) + x2.toInt) := mz_add2 b49 rfl (by omega) (by omega)
                refine tr_zastR (k := 40) I33 R36 (I33.up h_o0) q42 t43 (by decide) (by decide) rfl (Or.inl (by decide)) d_TrustDeskModel_trustee_61 (vp_in_iff.mpr (by omega)) (fun M51 I52 K53 R54 A56 V57 => ?_)
                refine mv_iconst (v := 1) d_TrustDeskModel_trustee_62 (by decide) ?_
                exact mv_iret d_TrustDeskModel_trustee_63 rfl (by decide) ⟨_, I52, _, rfl, by decide, by decide, R54⟩
              · refine mv_iconst (v := 0) d_TrustDeskModel_trustee_48 (by decide) ?_
                exact mv_iret d_TrustDeskModel_trustee_49 rfl (by decide) ⟨_, I33, _, rfl, by decide, by decide, R36⟩
abbrev kY_TrustDeskModel_objects : mj_Y := (⟨"TrustDeskModel", "objects", "(II)Z"⟩, prog_14_method_75_code, 3, (Option.some Jvm.ClassFile.FieldType.boolean))
theorem d_TrustDeskModel_objects_0 : decode kY_TrustDeskModel_objects.2.1 0 = .ok (.aload_n 0, 1) := by decide +kernel
theorem d_TrustDeskModel_objects_1 : decode kY_TrustDeskModel_objects.2.1 1 = .ok (.iconst 0, 1) := by decide +kernel
theorem d_TrustDeskModel_objects_2 : decode kY_TrustDeskModel_objects.2.1 2 = .ok (.putfield 1, 3) := by decide +kernel
theorem d_TrustDeskModel_objects_5 : decode kY_TrustDeskModel_objects.2.1 5 = .ok (.aload_n 0, 1) := by decide +kernel
theorem d_TrustDeskModel_objects_6 : decode kY_TrustDeskModel_objects.2.1 6 = .ok (.iload_n 1, 1) := by decide +kernel
theorem d_TrustDeskModel_objects_7 : decode kY_TrustDeskModel_objects.2.1 7 = .ok (.invokevirtual 506, 3) := by decide +kernel
abbrev kY_TrustDeskModel_isScheme : mj_Y := (⟨"TrustDeskModel", "isScheme", "(I)Z"⟩, prog_14_method_71_code, 2, (Option.some Jvm.ClassFile.FieldType.boolean))
theorem lV_TrustDeskModel_506 : mj_lV "TrustDeskModel" 506 kY_TrustDeskModel_isScheme 1 := ⟨⟨(mj_in1 (List.mem_of_getElem? (i := 1925) (by decide +kernel)) rfl), (mj_in1 (List.mem_of_getElem? (i := 10) (by decide +kernel)) rfl), (mj_in1 (List.mem_of_getElem? (i := 1928) (by decide +kernel)) rfl), by decide, rfl, by decide⟩, (mj_in1 (List.mem_of_getElem? (i := 1927) (by decide +kernel)) rfl), (mj_in (List.mem_append_left _ (List.mem_of_getElem? (i := 124) (by decide +kernel))) rfl)⟩
theorem d_TrustDeskModel_isScheme_0 : decode kY_TrustDeskModel_isScheme.2.1 0 = .ok (.iload_n 1, 1) := by decide +kernel
theorem d_TrustDeskModel_isScheme_1 : decode kY_TrustDeskModel_isScheme.2.1 1 = .ok (.ifCond .lt 15, 3) := by decide +kernel
theorem d_TrustDeskModel_isScheme_16 : decode kY_TrustDeskModel_isScheme.2.1 16 = .ok (.iconst 0, 1) := by decide +kernel
theorem d_TrustDeskModel_isScheme_17 : decode kY_TrustDeskModel_isScheme.2.1 17 = .ok (.ireturn, 1) := by decide +kernel
theorem d_TrustDeskModel_objects_10 : decode kY_TrustDeskModel_objects.2.1 10 = .ok (.ifCond .eq 31, 3) := by decide +kernel
theorem d_TrustDeskModel_objects_41 : decode kY_TrustDeskModel_objects.2.1 41 = .ok (.iconst 0, 1) := by decide +kernel
theorem d_TrustDeskModel_objects_42 : decode kY_TrustDeskModel_objects.2.1 42 = .ok (.ireturn, 1) := by decide +kernel
theorem d_TrustDeskModel_isScheme_4 : decode kY_TrustDeskModel_isScheme.2.1 4 = .ok (.iload_n 1, 1) := by decide +kernel
theorem d_TrustDeskModel_isScheme_5 : decode kY_TrustDeskModel_isScheme.2.1 5 = .ok (.aload_n 0, 1) := by decide +kernel
theorem d_TrustDeskModel_isScheme_6 : decode kY_TrustDeskModel_isScheme.2.1 6 = .ok (.getfield 501, 3) := by decide +kernel
theorem f_TrustDeskModel_501_13 : mj_fl "TrustDeskModel" 501 13 53 := ⟨kR_TrustDeskModel, kF_TrustDeskModel, 72, "TrustDeskModel", rfl, kg_13, by decide, (mj_in1 (List.mem_of_getElem? (i := 1439) (by decide +kernel)) rfl), Or.inl rfl⟩
theorem d_TrustDeskModel_isScheme_9 : decode kY_TrustDeskModel_isScheme.2.1 9 = .ok (.if_icmp .ge 7, 3) := by decide +kernel
theorem d_TrustDeskModel_isScheme_12 : decode kY_TrustDeskModel_isScheme.2.1 12 = .ok (.iconst 1, 1) := by decide +kernel
theorem d_TrustDeskModel_isScheme_13 : decode kY_TrustDeskModel_isScheme.2.1 13 = .ok (.goto 4, 3) := by decide +kernel
theorem d_TrustDeskModel_objects_13 : decode kY_TrustDeskModel_objects.2.1 13 = .ok (.iload_n 2, 1) := by decide +kernel
theorem d_TrustDeskModel_objects_14 : decode kY_TrustDeskModel_objects.2.1 14 = .ok (.invokestatic 495, 3) := by decide +kernel
theorem d_TrustDeskModel_objects_17 : decode kY_TrustDeskModel_objects.2.1 17 = .ok (.ifCond .eq 24, 3) := by decide +kernel
theorem d_TrustDeskModel_objects_20 : decode kY_TrustDeskModel_objects.2.1 20 = .ok (.aload_n 0, 1) := by decide +kernel
theorem d_TrustDeskModel_objects_21 : decode kY_TrustDeskModel_objects.2.1 21 = .ok (.getfield 137, 3) := by decide +kernel
theorem f_TrustDeskModel_137_13 : mj_fl "TrustDeskModel" 137 13 59 := ⟨kR_TrustDeskModel, kF_TrustDeskModel, 72, "TrustDeskModel", rfl, kg_13, by decide, (mj_in1 (List.mem_of_getElem? (i := 1445) (by decide +kernel)) rfl), Or.inl rfl⟩
theorem d_TrustDeskModel_objects_24 : decode kY_TrustDeskModel_objects.2.1 24 = .ok (.iload_n 1, 1) := by decide +kernel
theorem d_TrustDeskModel_objects_25 : decode kY_TrustDeskModel_objects.2.1 25 = .ok (.iaload, 1) := by decide +kernel
theorem d_TrustDeskModel_objects_26 : decode kY_TrustDeskModel_objects.2.1 26 = .ok (.ifCond .ne 15, 3) := by decide +kernel
theorem d_TrustDeskModel_objects_29 : decode kY_TrustDeskModel_objects.2.1 29 = .ok (.aload_n 0, 1) := by decide +kernel
theorem d_TrustDeskModel_objects_30 : decode kY_TrustDeskModel_objects.2.1 30 = .ok (.getfield 164, 3) := by decide +kernel
theorem d_TrustDeskModel_objects_33 : decode kY_TrustDeskModel_objects.2.1 33 = .ok (.aload_n 0, 1) := by decide +kernel
theorem d_TrustDeskModel_objects_34 : decode kY_TrustDeskModel_objects.2.1 34 = .ok (.iload_n 1, 1) := by decide +kernel
theorem d_TrustDeskModel_objects_35 : decode kY_TrustDeskModel_objects.2.1 35 = .ok (.invokevirtual 509, 3) := by decide +kernel
abbrev kY_TrustDeskModel_lastDay : mj_Y := (⟨"TrustDeskModel", "lastDay", "(I)I"⟩, prog_14_method_73_code, 2, (Option.some Jvm.ClassFile.FieldType.int))
theorem lV_TrustDeskModel_509 : mj_lV "TrustDeskModel" 509 kY_TrustDeskModel_lastDay 1 := ⟨⟨(mj_in1 (List.mem_of_getElem? (i := 1929) (by decide +kernel)) rfl), (mj_in1 (List.mem_of_getElem? (i := 10) (by decide +kernel)) rfl), (mj_in1 (List.mem_of_getElem? (i := 1932) (by decide +kernel)) rfl), by decide, rfl, by decide⟩, (mj_in1 (List.mem_of_getElem? (i := 1931) (by decide +kernel)) rfl), (mj_in (List.mem_append_left _ (List.mem_of_getElem? (i := 125) (by decide +kernel))) rfl)⟩
theorem d_TrustDeskModel_lastDay_0 : decode kY_TrustDeskModel_lastDay.2.1 0 = .ok (.aload_n 0, 1) := by decide +kernel
theorem d_TrustDeskModel_lastDay_1 : decode kY_TrustDeskModel_lastDay.2.1 1 = .ok (.getfield 134, 3) := by decide +kernel
theorem f_TrustDeskModel_134_13 : mj_fl "TrustDeskModel" 134 13 58 := ⟨kR_TrustDeskModel, kF_TrustDeskModel, 72, "TrustDeskModel", rfl, kg_13, by decide, (mj_in1 (List.mem_of_getElem? (i := 1444) (by decide +kernel)) rfl), Or.inl rfl⟩
theorem d_TrustDeskModel_lastDay_4 : decode kY_TrustDeskModel_lastDay.2.1 4 = .ok (.iload_n 1, 1) := by decide +kernel
theorem d_TrustDeskModel_lastDay_5 : decode kY_TrustDeskModel_lastDay.2.1 5 = .ok (.iaload, 1) := by decide +kernel
theorem d_TrustDeskModel_lastDay_6 : decode kY_TrustDeskModel_lastDay.2.1 6 = .ok (.ireturn, 1) := by decide +kernel
theorem d_TrustDeskModel_objects_38 : decode kY_TrustDeskModel_objects.2.1 38 = .ok (.if_icmp .le 5, 3) := by decide +kernel
theorem d_TrustDeskModel_objects_43 : decode kY_TrustDeskModel_objects.2.1 43 = .ok (.aload_n 0, 1) := by decide +kernel
theorem d_TrustDeskModel_objects_44 : decode kY_TrustDeskModel_objects.2.1 44 = .ok (.getfield 143, 3) := by decide +kernel
theorem d_TrustDeskModel_objects_47 : decode kY_TrustDeskModel_objects.2.1 47 = .ok (.bipush 100, 2) := by decide +kernel
theorem d_TrustDeskModel_objects_49 : decode kY_TrustDeskModel_objects.2.1 49 = .ok (.iload_n 1, 1) := by decide +kernel
theorem d_TrustDeskModel_objects_50 : decode kY_TrustDeskModel_objects.2.1 50 = .ok (.imul, 1) := by decide +kernel
theorem d_TrustDeskModel_objects_51 : decode kY_TrustDeskModel_objects.2.1 51 = .ok (.iload_n 2, 1) := by decide +kernel
theorem d_TrustDeskModel_objects_52 : decode kY_TrustDeskModel_objects.2.1 52 = .ok (.iadd, 1) := by decide +kernel
theorem d_TrustDeskModel_objects_53 : decode kY_TrustDeskModel_objects.2.1 53 = .ok (.baload, 1) := by decide +kernel
theorem d_TrustDeskModel_objects_54 : decode kY_TrustDeskModel_objects.2.1 54 = .ok (.ifCond .ne 13, 3) := by decide +kernel
theorem d_TrustDeskModel_objects_67 : decode kY_TrustDeskModel_objects.2.1 67 = .ok (.iconst 0, 1) := by decide +kernel
theorem d_TrustDeskModel_objects_68 : decode kY_TrustDeskModel_objects.2.1 68 = .ok (.ireturn, 1) := by decide +kernel
theorem d_TrustDeskModel_objects_57 : decode kY_TrustDeskModel_objects.2.1 57 = .ok (.aload_n 0, 1) := by decide +kernel
theorem d_TrustDeskModel_objects_58 : decode kY_TrustDeskModel_objects.2.1 58 = .ok (.iload_n 1, 1) := by decide +kernel
theorem d_TrustDeskModel_objects_59 : decode kY_TrustDeskModel_objects.2.1 59 = .ok (.invokevirtual 512, 3) := by decide +kernel
theorem lV_TrustDeskModel_512 : mj_lV "TrustDeskModel" 512 kY_TrustDeskModel_against 1 := ⟨⟨(mj_in1 (List.mem_of_getElem? (i := 1933) (by decide +kernel)) rfl), (mj_in1 (List.mem_of_getElem? (i := 10) (by decide +kernel)) rfl), (mj_in1 (List.mem_of_getElem? (i := 1936) (by decide +kernel)) rfl), by decide, rfl, by decide⟩, (mj_in1 (List.mem_of_getElem? (i := 1935) (by decide +kernel)) rfl), (mj_in (List.mem_append_left _ (List.mem_of_getElem? (i := 126) (by decide +kernel))) rfl)⟩
theorem d_TrustDeskModel_objects_62 : decode kY_TrustDeskModel_objects.2.1 62 = .ok (.bipush 10, 2) := by decide +kernel
theorem d_TrustDeskModel_objects_64 : decode kY_TrustDeskModel_objects.2.1 64 = .ok (.if_icmp .ne 5, 3) := by decide +kernel
theorem d_TrustDeskModel_objects_69 : decode kY_TrustDeskModel_objects.2.1 69 = .ok (.aload_n 0, 1) := by decide +kernel
theorem d_TrustDeskModel_objects_70 : decode kY_TrustDeskModel_objects.2.1 70 = .ok (.getfield 143, 3) := by decide +kernel
theorem d_TrustDeskModel_objects_73 : decode kY_TrustDeskModel_objects.2.1 73 = .ok (.bipush 100, 2) := by decide +kernel
theorem d_TrustDeskModel_objects_75 : decode kY_TrustDeskModel_objects.2.1 75 = .ok (.iload_n 1, 1) := by decide +kernel
theorem d_TrustDeskModel_objects_76 : decode kY_TrustDeskModel_objects.2.1 76 = .ok (.imul, 1) := by decide +kernel
theorem d_TrustDeskModel_objects_77 : decode kY_TrustDeskModel_objects.2.1 77 = .ok (.iload_n 2, 1) := by decide +kernel
theorem d_TrustDeskModel_objects_78 : decode kY_TrustDeskModel_objects.2.1 78 = .ok (.iadd, 1) := by decide +kernel
theorem d_TrustDeskModel_objects_79 : decode kY_TrustDeskModel_objects.2.1 79 = .ok (.iconst 1, 1) := by decide +kernel
theorem d_TrustDeskModel_objects_80 : decode kY_TrustDeskModel_objects.2.1 80 = .ok (.bastore, 1) := by decide +kernel
theorem d_TrustDeskModel_objects_81 : decode kY_TrustDeskModel_objects.2.1 81 = .ok (.iconst 1, 1) := by decide +kernel
theorem d_TrustDeskModel_objects_82 : decode kY_TrustDeskModel_objects.2.1 82 = .ok (.ireturn, 1) := by decide +kernel
def w_TrustDeskModel_objects_x : List Nat := [1300, 20061]
set_option maxHeartbeats 100000000 in theorem tc_TrustDeskModel_objects_x {g : mj_G} {l : Launch} {d : Nat} {T0 : tm_H} {M0 : mj_M} {n0 x9 : Nat} {o0 : Nat} {x1 : Int32} {x2 : Int32} (h_o0 : T0 o0 = some (0, 13, 0)) (yR : rI M0 o0) (I0 : tm_I tm_FT (tm_in w_TrustDeskModel_objects_x) x9 T0 M0 n0 T0 M0 n0) : mj_Met g l kY_TrustDeskModel_objects (d + 1) [.ref o0, .int x1, .int x2] M0 n0 0 0 (tm_Q tm_FT (tm_in w_TrustDeskModel_objects_x) x9 T0 M0 n0 (fun r _ M => ∃ v : Int32, r = some (.int v) ∧ 0 ≤ v.toInt ∧ v.toInt ≤ 1 ∧ rI M o0)) := by
  refine mj_enter (by decide) (Nat.le_of_ble_eq_true rfl) ?_
  refine mv_aload_n d_TrustDeskModel_objects_0 rfl rfl ?_
  refine mv_iconst (v := 0) d_TrustDeskModel_objects_1 (by decide) ?_
  refine tr_putR (k := 0) I0 yR h_o0 rfl ⟨_, rfl⟩ (fun _ h => by cases h) rfl (fun lo hi h => by cases h) (Or.inl (by decide)) d_TrustDeskModel_objects_2 p_TrustDeskModel_1_13 rfl rfl (fun M1 I2 q3 K4 R5 A6 V7 => ?_)
  refine mv_aload_n d_TrustDeskModel_objects_5 rfl rfl ?_
  refine mv_iload_n d_TrustDeskModel_objects_6 rfl rfl ?_
  obtain ⟨_, b8, -⟩ := I2.1 _ _ h_o0
  refine mv_callV (kc1 := 0) (ks1 := 0) (kc' := 0) (ks' := 0) (As := [.int x1]) (st9 := [.int x1, .ref o0]) d_TrustDeskModel_objects_7 lV_TrustDeskModel_506 b8 rfl (mj_enter (by decide) (Nat.le_of_ble_eq_true rfl) ?_) rfl (Nat.le_of_ble_eq_true rfl) (Nat.le_of_ble_eq_true rfl) (Nat.le_of_ble_eq_true rfl) (hst := rfl) (fun _ _ _ h => h)
  refine mv_iload_n d_TrustDeskModel_isScheme_0 rfl rfl ?_
  have := mz_hi x1
  refine mv_if_ltZ (tgt := 16) (a := x1.toInt) d_TrustDeskModel_isScheme_1 (by decide) rfl (fun b9 => ?_) (fun b9 => ?_)
  · refine mv_iconst (v := 0) d_TrustDeskModel_isScheme_16 (by decide) ?_
    refine mv_iret d_TrustDeskModel_isScheme_17 rfl (by decide) ?_
    refine mv_if_eq_t (tgt := 41) d_TrustDeskModel_objects_10 (by decide) (by decide) ?_
    refine mv_iconst (v := 0) d_TrustDeskModel_objects_41 (by decide) ?_
    exact mv_iret d_TrustDeskModel_objects_42 rfl (by decide) ⟨_, I2, _, rfl, by decide, by decide, R5⟩
  · refine mv_iload_n d_TrustDeskModel_isScheme_4 rfl rfl ?_
    refine mv_aload_n d_TrustDeskModel_isScheme_5 rfl rfl ?_
    obtain ⟨v11, q10⟩ := tm_atI I2 h_o0 (k := 53) rfl
    refine tr_getK q10 d_TrustDeskModel_isScheme_6 f_TrustDeskModel_501_13 ?_
    have := R5.f (k := 53) q10 rfl
    have := mz_hi x1
    have := mz_hi v11
    refine mv_icmp_geZ (tgt := 16) (a := x1.toInt) (b := v11.toInt) d_TrustDeskModel_isScheme_9 (by decide) rfl rfl (fun b12 => ?_) (fun b12 => ?_)
    · refine mv_iconst (v := 0) d_TrustDeskModel_isScheme_16 (by decide) ?_
      refine mv_iret d_TrustDeskModel_isScheme_17 rfl (by decide) ?_
      refine mv_if_eq_t (tgt := 41) d_TrustDeskModel_objects_10 (by decide) (by decide) ?_
      refine mv_iconst (v := 0) d_TrustDeskModel_objects_41 (by decide) ?_
      exact mv_iret d_TrustDeskModel_objects_42 rfl (by decide) ⟨_, I2, _, rfl, by decide, by decide, R5⟩
    · refine mv_iconst (v := 1) d_TrustDeskModel_isScheme_12 (by decide) ?_
      refine mv_goto (tgt := 17) d_TrustDeskModel_isScheme_13 (by decide) ?_
      refine mv_iret d_TrustDeskModel_isScheme_17 rfl (by decide) ?_
      refine mv_if_eq_f (tgt := 41) d_TrustDeskModel_objects_10 (by decide) (by decide) ?_
      refine mv_iload_n d_TrustDeskModel_objects_13 rfl rfl ?_
      refine mv_callS (kc1 := 0) (ks1 := 0) (kc' := 0) (ks' := 0) (As := [.int x2]) (st9 := [.int x2]) d_TrustDeskModel_objects_14 lS_TrustDeskModel_495 (mj_enter (by decide) (Nat.le_of_ble_eq_true rfl) ?_) rfl (Nat.le_of_ble_eq_true rfl) (Nat.le_of_ble_eq_true rfl) (Nat.le_of_ble_eq_true rfl) (hst := rfl) (fun _ _ _ h => h)
      refine mv_iload_n d_TrustDeskModel_isPerson_0 rfl rfl ?_
      have := mz_hi x2
      refine mv_if_ltZ (tgt := 14) (a := x2.toInt) d_TrustDeskModel_isPerson_1 (by decide) rfl (fun b13 => ?_) (fun b13 => ?_)
      · refine mv_iconst (v := 0) d_TrustDeskModel_isPerson_14 (by decide) ?_
        refine mv_iret d_TrustDeskModel_isPerson_15 rfl (by decide) ?_
        refine mv_if_eq_t (tgt := 41) d_TrustDeskModel_objects_17 (by decide) (by decide) ?_
        refine mv_iconst (v := 0) d_TrustDeskModel_objects_41 (by decide) ?_
        exact mv_iret d_TrustDeskModel_objects_42 rfl (by decide) ⟨_, I2, _, rfl, by decide, by decide, R5⟩
      · refine mv_iload_n d_TrustDeskModel_isPerson_4 rfl rfl ?_
        refine mv_bipush (v := 100) d_TrustDeskModel_isPerson_5 (by decide) ?_
        have := mz_hi x2
        refine mv_icmp_geZ (tgt := 14) (a := x2.toInt) (b := 100) d_TrustDeskModel_isPerson_7 (by decide) rfl (by decide) (fun b14 => ?_) (fun b14 => ?_)
        · refine mv_iconst (v := 0) d_TrustDeskModel_isPerson_14 (by decide) ?_
          refine mv_iret d_TrustDeskModel_isPerson_15 rfl (by decide) ?_
          refine mv_if_eq_t (tgt := 41) d_TrustDeskModel_objects_17 (by decide) (by decide) ?_
          refine mv_iconst (v := 0) d_TrustDeskModel_objects_41 (by decide) ?_
          exact mv_iret d_TrustDeskModel_objects_42 rfl (by decide) ⟨_, I2, _, rfl, by decide, by decide, R5⟩
        · refine mv_iconst (v := 1) d_TrustDeskModel_isPerson_10 (by decide) ?_
          refine mv_goto (tgt := 15) d_TrustDeskModel_isPerson_11 (by decide) ?_
          refine mv_iret d_TrustDeskModel_isPerson_15 rfl (by decide) ?_
          refine mv_if_eq_f (tgt := 41) d_TrustDeskModel_objects_17 (by decide) (by decide) ?_
          refine mv_aload_n d_TrustDeskModel_objects_20 rfl rfl ?_
          obtain ⟨a16, q15, t_a16⟩ := tm_atR I2 h_o0 (k := 59) rfl
          refine tr_getK q15 d_TrustDeskModel_objects_21 f_TrustDeskModel_137_13 ?_
          refine mv_iload_n d_TrustDeskModel_objects_24 rfl rfl ?_
          refine tr_ialdR (o := o0) (k := 59) I2 q15 t_a16 (by decide) d_TrustDeskModel_objects_25 (vp_in_iff.mpr (by omega)) (fun v17 e18 => ?_)
          have := mz_hi v17
          refine mv_if_neZ (tgt := 41) (a := v17.toInt) d_TrustDeskModel_objects_26 (by decide) rfl (fun b19 => ?_) (fun b19 => ?_)
          · refine mv_iconst (v := 0) d_TrustDeskModel_objects_41 (by decide) ?_
            exact mv_iret d_TrustDeskModel_objects_42 rfl (by decide) ⟨_, I2, _, rfl, by decide, by decide, R5⟩
          · refine mv_aload_n d_TrustDeskModel_objects_29 rfl rfl ?_
            obtain ⟨v21, q20⟩ := tm_atI I2 h_o0 (k := 1) rfl
            refine tr_getK q20 d_TrustDeskModel_objects_30 f_TrustDeskModel_164_13 ?_
            have := R5.f (k := 1) q20 rfl
            refine mv_aload_n d_TrustDeskModel_objects_33 rfl rfl ?_
            refine mv_iload_n d_TrustDeskModel_objects_34 rfl rfl ?_
            obtain ⟨_, b22, -⟩ := I2.1 _ _ h_o0
            refine mv_callV (kc1 := 0) (ks1 := 0) (kc' := 0) (ks' := 0) (As := [.int x1]) (st9 := [.int x1, .ref o0, .int v21]) d_TrustDeskModel_objects_35 lV_TrustDeskModel_509 b22 rfl (mj_enter (by decide) (Nat.le_of_ble_eq_true rfl) ?_) rfl (Nat.le_of_ble_eq_true rfl) (Nat.le_of_ble_eq_true rfl) (Nat.le_of_ble_eq_true rfl) (hst := rfl) (fun _ _ _ h => h)
            refine mv_aload_n d_TrustDeskModel_lastDay_0 rfl rfl ?_
            obtain ⟨a24, q23, t_a24⟩ := tm_atR I2 h_o0 (k := 58) rfl
            refine tr_getK q23 d_TrustDeskModel_lastDay_1 f_TrustDeskModel_134_13 ?_
            refine mv_iload_n d_TrustDeskModel_lastDay_4 rfl rfl ?_
            refine tr_ialdR (o := o0) (k := 58) I2 q23 t_a24 (by decide) d_TrustDeskModel_lastDay_5 (vp_in_iff.mpr (by omega)) (fun v25 e26 => ?_)
            refine mv_iret d_TrustDeskModel_lastDay_6 rfl (by first | rfl | decide) ?_
            have := mz_hi v21
            have := mz_hi v25
            refine mv_icmp_leZ (tgt := 43) (a := v21.toInt) (b := v25.toInt) d_TrustDeskModel_objects_38 (by decide) rfl rfl (fun b27 => ?_) (fun b27 => ?_)
            · refine mv_aload_n d_TrustDeskModel_objects_43 rfl rfl ?_
              obtain ⟨a29, q28, t_a29⟩ := tm_atR I2 h_o0 (k := 61) rfl
              refine tr_getK q28 d_TrustDeskModel_objects_44 f_TrustDeskModel_143_13 ?_
              refine mv_bipush (v := 100) d_TrustDeskModel_objects_47 (by decide) ?_
              refine mv_iload_n d_TrustDeskModel_objects_49 rfl rfl ?_
              refine mv_imul d_TrustDeskModel_objects_50 ?_
              refine mv_iload_n d_TrustDeskModel_objects_51 rfl rfl ?_
              refine mv_iadd d_TrustDeskModel_objects_52 ?_
              have b30 : (100 * x1 : Int32).toInt = (100 * x1.toInt) := mz_mul2 (by decide) rfl (by omega) (by omega)
              have b31 : ((100 * x1) + x2 : Int32).toInt = ((100 * x1.toInt) + x2.toInt) := mz_add2 b30 rfl (by omega) (by omega)
              refine tr_zaldR (o := o0) (k := 61) I2 q28 t_a29 (by decide) d_TrustDeskModel_objects_53 (vp_in_iff.mpr (by omega)) (fun v32 e33 => ?_)
              have := mz_hi v32
              refine mv_if_neZ (tgt := 67) (a := v32.toInt) d_TrustDeskModel_objects_54 (by decide) rfl (fun b34 => ?_) (fun b34 => ?_)
              · refine mv_iconst (v := 0) d_TrustDeskModel_objects_67 (by decide) ?_
                exact mv_iret d_TrustDeskModel_objects_68 rfl (by decide) ⟨_, I2, _, rfl, by decide, by decide, R5⟩
              · refine mv_aload_n d_TrustDeskModel_objects_57 rfl rfl ?_
                refine mv_iload_n d_TrustDeskModel_objects_58 rfl rfl ?_
                obtain ⟨_, b41, -⟩ := I2.1 _ _ h_o0
                refine mv_callV (kc' := 0) (ks' := 0) (As := [.int x1]) (st9 := [.int x1, .ref o0]) d_TrustDeskModel_objects_59 lV_TrustDeskModel_512 b41 rfl (tc_TrustDeskModel_against_x (d := d) (x9 := x9) (o0 := o0) (x1 := x1) h_o0 (by omega) R5 I2.start) rfl (Nat.le_of_ble_eq_true rfl) (Nat.le_of_ble_eq_true rfl) (Nat.le_of_ble_eq_true rfl) (hst := rfl) (fun b35r M36 n37 b35 => ?_)
                obtain ⟨T38, J39, v42, rfl, R43⟩ := b35
                have I40 := I2.call J39 (tm_sub (by decide)) (Or.inl rfl)
                have t44 := J39.up h_o0
                have q45 := J39.keep h_o0 (by decide) q3
                have q46 := J39.keep h_o0 (by decide) q10
                have q47 := J39.keep h_o0 (by decide) q15
                have t48 := J39.up t_a16
                have q49 := J39.keep h_o0 (by decide) q20
                have q50 := J39.keep h_o0 (by decide) q23
                have t51 := J39.up t_a24
                have q52 := J39.keep h_o0 (by decide) q28
                have t53 := J39.up t_a29
                refine mv_bipush (v := 10) d_TrustDeskModel_objects_62 (by decide) ?_
                have := mz_hi v42
                refine mv_icmp_neZ (tgt := 69) (a := v42.toInt) (b := 10) d_TrustDeskModel_objects_64 (by decide) rfl (by decide) (fun b54 => ?_) (fun b54 => ?_)
                · refine mv_aload_n d_TrustDeskModel_objects_69 rfl rfl ?_
                  refine tr_getK (k := 61) q52 d_TrustDeskModel_objects_70 f_TrustDeskModel_143_13 ?_
                  refine mv_bipush (v := 100) d_TrustDeskModel_objects_73 (by decide) ?_
                  refine mv_iload_n d_TrustDeskModel_objects_75 rfl rfl ?_
                  refine mv_imul d_TrustDeskModel_objects_76 ?_
                  refine mv_iload_n d_TrustDeskModel_objects_77 rfl rfl ?_
                  refine mv_iadd d_TrustDeskModel_objects_78 ?_
                  refine mv_iconst (v := 1) d_TrustDeskModel_objects_79 (by decide) ?_
                  have b55 : (100 * x1 : Int32).toInt = (100 * x1.toInt) := mz_mul2 (by decide) rfl (by omega) (by omega)
                  have b56 : ((100 * x1) + x2 : Int32).toInt = ((100 * x1.toInt) + x2.toInt) := mz_add2 b55 rfl (by omega) (by omega)
                  refine tr_zastR (k := 61) I40 R43 (I40.up h_o0) q52 t53 (by decide) (by decide) rfl (Or.inl (by decide)) d_TrustDeskModel_objects_80 (vp_in_iff.mpr (by omega)) (fun M57 I58 K59 R60 A62 V63 => ?_)
                  refine mv_iconst (v := 1) d_TrustDeskModel_objects_81 (by decide) ?_
                  exact mv_iret d_TrustDeskModel_objects_82 rfl (by decide) ⟨_, I58, _, rfl, by decide, by decide, R60⟩
                · refine mv_iconst (v := 0) d_TrustDeskModel_objects_67 (by decide) ?_
                  exact mv_iret d_TrustDeskModel_objects_68 rfl (by decide) ⟨_, I40, _, rfl, by decide, by decide, R43⟩
            · refine mv_iconst (v := 0) d_TrustDeskModel_objects_41 (by decide) ?_
              exact mv_iret d_TrustDeskModel_objects_42 rfl (by decide) ⟨_, I2, _, rfl, by decide, by decide, R5⟩
abbrev kY_TrustDeskModel_withdraws : mj_Y := (⟨"TrustDeskModel", "withdraws", "(II)Z"⟩, prog_14_method_76_code, 3, (Option.some Jvm.ClassFile.FieldType.boolean))
theorem d_TrustDeskModel_withdraws_0 : decode kY_TrustDeskModel_withdraws.2.1 0 = .ok (.aload_n 0, 1) := by decide +kernel
theorem d_TrustDeskModel_withdraws_1 : decode kY_TrustDeskModel_withdraws.2.1 1 = .ok (.iconst 0, 1) := by decide +kernel
theorem d_TrustDeskModel_withdraws_2 : decode kY_TrustDeskModel_withdraws.2.1 2 = .ok (.putfield 1, 3) := by decide +kernel
theorem d_TrustDeskModel_withdraws_5 : decode kY_TrustDeskModel_withdraws.2.1 5 = .ok (.aload_n 0, 1) := by decide +kernel
theorem d_TrustDeskModel_withdraws_6 : decode kY_TrustDeskModel_withdraws.2.1 6 = .ok (.iload_n 1, 1) := by decide +kernel
theorem d_TrustDeskModel_withdraws_7 : decode kY_TrustDeskModel_withdraws.2.1 7 = .ok (.invokevirtual 506, 3) := by decide +kernel
theorem d_TrustDeskModel_withdraws_10 : decode kY_TrustDeskModel_withdraws.2.1 10 = .ok (.ifCond .eq 33, 3) := by decide +kernel
theorem d_TrustDeskModel_withdraws_43 : decode kY_TrustDeskModel_withdraws.2.1 43 = .ok (.iconst 0, 1) := by decide +kernel
theorem d_TrustDeskModel_withdraws_44 : decode kY_TrustDeskModel_withdraws.2.1 44 = .ok (.ireturn, 1) := by decide +kernel
theorem d_TrustDeskModel_withdraws_13 : decode kY_TrustDeskModel_withdraws.2.1 13 = .ok (.iload_n 2, 1) := by decide +kernel
theorem d_TrustDeskModel_withdraws_14 : decode kY_TrustDeskModel_withdraws.2.1 14 = .ok (.invokestatic 495, 3) := by decide +kernel
theorem d_TrustDeskModel_withdraws_17 : decode kY_TrustDeskModel_withdraws.2.1 17 = .ok (.ifCond .eq 26, 3) := by decide +kernel
theorem d_TrustDeskModel_withdraws_20 : decode kY_TrustDeskModel_withdraws.2.1 20 = .ok (.aload_n 0, 1) := by decide +kernel
theorem d_TrustDeskModel_withdraws_21 : decode kY_TrustDeskModel_withdraws.2.1 21 = .ok (.getfield 137, 3) := by decide +kernel
theorem d_TrustDeskModel_withdraws_24 : decode kY_TrustDeskModel_withdraws.2.1 24 = .ok (.iload_n 1, 1) := by decide +kernel
theorem d_TrustDeskModel_withdraws_25 : decode kY_TrustDeskModel_withdraws.2.1 25 = .ok (.iaload, 1) := by decide +kernel
theorem d_TrustDeskModel_withdraws_26 : decode kY_TrustDeskModel_withdraws.2.1 26 = .ok (.ifCond .ne 17, 3) := by decide +kernel
theorem d_TrustDeskModel_withdraws_29 : decode kY_TrustDeskModel_withdraws.2.1 29 = .ok (.aload_n 0, 1) := by decide +kernel
theorem d_TrustDeskModel_withdraws_30 : decode kY_TrustDeskModel_withdraws.2.1 30 = .ok (.getfield 143, 3) := by decide +kernel
theorem d_TrustDeskModel_withdraws_33 : decode kY_TrustDeskModel_withdraws.2.1 33 = .ok (.bipush 100, 2) := by decide +kernel
theorem d_TrustDeskModel_withdraws_35 : decode kY_TrustDeskModel_withdraws.2.1 35 = .ok (.iload_n 1, 1) := by decide +kernel
theorem d_TrustDeskModel_withdraws_36 : decode kY_TrustDeskModel_withdraws.2.1 36 = .ok (.imul, 1) := by decide +kernel
theorem d_TrustDeskModel_withdraws_37 : decode kY_TrustDeskModel_withdraws.2.1 37 = .ok (.iload_n 2, 1) := by decide +kernel
theorem d_TrustDeskModel_withdraws_38 : decode kY_TrustDeskModel_withdraws.2.1 38 = .ok (.iadd, 1) := by decide +kernel
theorem d_TrustDeskModel_withdraws_39 : decode kY_TrustDeskModel_withdraws.2.1 39 = .ok (.baload, 1) := by decide +kernel
theorem d_TrustDeskModel_withdraws_40 : decode kY_TrustDeskModel_withdraws.2.1 40 = .ok (.ifCond .ne 5, 3) := by decide +kernel
theorem d_TrustDeskModel_withdraws_45 : decode kY_TrustDeskModel_withdraws.2.1 45 = .ok (.aload_n 0, 1) := by decide +kernel
theorem d_TrustDeskModel_withdraws_46 : decode kY_TrustDeskModel_withdraws.2.1 46 = .ok (.getfield 143, 3) := by decide +kernel
theorem d_TrustDeskModel_withdraws_49 : decode kY_TrustDeskModel_withdraws.2.1 49 = .ok (.bipush 100, 2) := by decide +kernel
theorem d_TrustDeskModel_withdraws_51 : decode kY_TrustDeskModel_withdraws.2.1 51 = .ok (.iload_n 1, 1) := by decide +kernel
theorem d_TrustDeskModel_withdraws_52 : decode kY_TrustDeskModel_withdraws.2.1 52 = .ok (.imul, 1) := by decide +kernel
theorem d_TrustDeskModel_withdraws_53 : decode kY_TrustDeskModel_withdraws.2.1 53 = .ok (.iload_n 2, 1) := by decide +kernel
theorem d_TrustDeskModel_withdraws_54 : decode kY_TrustDeskModel_withdraws.2.1 54 = .ok (.iadd, 1) := by decide +kernel
theorem d_TrustDeskModel_withdraws_55 : decode kY_TrustDeskModel_withdraws.2.1 55 = .ok (.iconst 0, 1) := by decide +kernel
theorem d_TrustDeskModel_withdraws_56 : decode kY_TrustDeskModel_withdraws.2.1 56 = .ok (.bastore, 1) := by decide +kernel
theorem d_TrustDeskModel_withdraws_57 : decode kY_TrustDeskModel_withdraws.2.1 57 = .ok (.iconst 1, 1) := by decide +kernel
theorem d_TrustDeskModel_withdraws_58 : decode kY_TrustDeskModel_withdraws.2.1 58 = .ok (.ireturn, 1) := by decide +kernel
def w_TrustDeskModel_withdraws_x : List Nat := [1300, 20061]
set_option maxHeartbeats 100000000 in theorem tc_TrustDeskModel_withdraws_x {g : mj_G} {l : Launch} {d : Nat} {T0 : tm_H} {M0 : mj_M} {n0 x9 : Nat} {o0 : Nat} {x1 : Int32} {x2 : Int32} (h_o0 : T0 o0 = some (0, 13, 0)) (yR : rI M0 o0) (I0 : tm_I tm_FT (tm_in w_TrustDeskModel_withdraws_x) x9 T0 M0 n0 T0 M0 n0) : mj_Met g l kY_TrustDeskModel_withdraws (d + 1) [.ref o0, .int x1, .int x2] M0 n0 0 0 (tm_Q tm_FT (tm_in w_TrustDeskModel_withdraws_x) x9 T0 M0 n0 (fun r _ M => ∃ v : Int32, r = some (.int v) ∧ 0 ≤ v.toInt ∧ v.toInt ≤ 1 ∧ rI M o0)) := by
  refine mj_enter (by decide) (Nat.le_of_ble_eq_true rfl) ?_
  refine mv_aload_n d_TrustDeskModel_withdraws_0 rfl rfl ?_
  refine mv_iconst (v := 0) d_TrustDeskModel_withdraws_1 (by decide) ?_
  refine tr_putR (k := 0) I0 yR h_o0 rfl ⟨_, rfl⟩ (fun _ h => by cases h) rfl (fun lo hi h => by cases h) (Or.inl (by decide)) d_TrustDeskModel_withdraws_2 p_TrustDeskModel_1_13 rfl rfl (fun M1 I2 q3 K4 R5 A6 V7 => ?_)
  refine mv_aload_n d_TrustDeskModel_withdraws_5 rfl rfl ?_
  refine mv_iload_n d_TrustDeskModel_withdraws_6 rfl rfl ?_
  obtain ⟨_, b8, -⟩ := I2.1 _ _ h_o0
  refine mv_callV (kc1 := 0) (ks1 := 0) (kc' := 0) (ks' := 0) (As := [.int x1]) (st9 := [.int x1, .ref o0]) d_TrustDeskModel_withdraws_7 lV_TrustDeskModel_506 b8 rfl (mj_enter (by decide) (Nat.le_of_ble_eq_true rfl) ?_) rfl (Nat.le_of_ble_eq_true rfl) (Nat.le_of_ble_eq_true rfl) (Nat.le_of_ble_eq_true rfl) (hst := rfl) (fun _ _ _ h => h)
  refine mv_iload_n d_TrustDeskModel_isScheme_0 rfl rfl ?_
  have := mz_hi x1
  refine mv_if_ltZ (tgt := 16) (a := x1.toInt) d_TrustDeskModel_isScheme_1 (by decide) rfl (fun b9 => ?_) (fun b9 => ?_)
  · refine mv_iconst (v := 0) d_TrustDeskModel_isScheme_16 (by decide) ?_
    refine mv_iret d_TrustDeskModel_isScheme_17 rfl (by decide) ?_
    refine mv_if_eq_t (tgt := 43) d_TrustDeskModel_withdraws_10 (by decide) (by decide) ?_
    refine mv_iconst (v := 0) d_TrustDeskModel_withdraws_43 (by decide) ?_
    exact mv_iret d_TrustDeskModel_withdraws_44 rfl (by decide) ⟨_, I2, _, rfl, by decide, by decide, R5⟩
  · refine mv_iload_n d_TrustDeskModel_isScheme_4 rfl rfl ?_
    refine mv_aload_n d_TrustDeskModel_isScheme_5 rfl rfl ?_
    obtain ⟨v11, q10⟩ := tm_atI I2 h_o0 (k := 53) rfl
    refine tr_getK q10 d_TrustDeskModel_isScheme_6 f_TrustDeskModel_501_13 ?_
    have := R5.f (k := 53) q10 rfl
    have := mz_hi x1
    have := mz_hi v11
    refine mv_icmp_geZ (tgt := 16) (a := x1.toInt) (b := v11.toInt) d_TrustDeskModel_isScheme_9 (by decide) rfl rfl (fun b12 => ?_) (fun b12 => ?_)
    · refine mv_iconst (v := 0) d_TrustDeskModel_isScheme_16 (by decide) ?_
      refine mv_iret d_TrustDeskModel_isScheme_17 rfl (by decide) ?_
      refine mv_if_eq_t (tgt := 43) d_TrustDeskModel_withdraws_10 (by decide) (by decide) ?_
      refine mv_iconst (v := 0) d_TrustDeskModel_withdraws_43 (by decide) ?_
      exact mv_iret d_TrustDeskModel_withdraws_44 rfl (by decide) ⟨_, I2, _, rfl, by decide, by decide, R5⟩
    · refine mv_iconst (v := 1) d_TrustDeskModel_isScheme_12 (by decide) ?_
      refine mv_goto (tgt := 17) d_TrustDeskModel_isScheme_13 (by decide) ?_
      refine mv_iret d_TrustDeskModel_isScheme_17 rfl (by decide) ?_
      refine mv_if_eq_f (tgt := 43) d_TrustDeskModel_withdraws_10 (by decide) (by decide) ?_
      refine mv_iload_n d_TrustDeskModel_withdraws_13 rfl rfl ?_
      refine mv_callS (kc1 := 0) (ks1 := 0) (kc' := 0) (ks' := 0) (As := [.int x2]) (st9 := [.int x2]) d_TrustDeskModel_withdraws_14 lS_TrustDeskModel_495 (mj_enter (by decide) (Nat.le_of_ble_eq_true rfl) ?_) rfl (Nat.le_of_ble_eq_true rfl) (Nat.le_of_ble_eq_true rfl) (Nat.le_of_ble_eq_true rfl) (hst := rfl) (fun _ _ _ h => h)
      refine mv_iload_n d_TrustDeskModel_isPerson_0 rfl rfl ?_
      have := mz_hi x2
      refine mv_if_ltZ (tgt := 14) (a := x2.toInt) d_TrustDeskModel_isPerson_1 (by decide) rfl (fun b13 => ?_) (fun b13 => ?_)
      · refine mv_iconst (v := 0) d_TrustDeskModel_isPerson_14 (by decide) ?_
        refine mv_iret d_TrustDeskModel_isPerson_15 rfl (by decide) ?_
        refine mv_if_eq_t (tgt := 43) d_TrustDeskModel_withdraws_17 (by decide) (by decide) ?_
        refine mv_iconst (v := 0) d_TrustDeskModel_withdraws_43 (by decide) ?_
        exact mv_iret d_TrustDeskModel_withdraws_44 rfl (by decide) ⟨_, I2, _, rfl, by decide, by decide, R5⟩
      · refine mv_iload_n d_TrustDeskModel_isPerson_4 rfl rfl ?_
        refine mv_bipush (v := 100) d_TrustDeskModel_isPerson_5 (by decide) ?_
        have := mz_hi x2
        refine mv_icmp_geZ (tgt := 14) (a := x2.toInt) (b := 100) d_TrustDeskModel_isPerson_7 (by decide) rfl (by decide) (fun b14 => ?_) (fun b14 => ?_)
        · refine mv_iconst (v := 0) d_TrustDeskModel_isPerson_14 (by decide) ?_
          refine mv_iret d_TrustDeskModel_isPerson_15 rfl (by decide) ?_
          refine mv_if_eq_t (tgt := 43) d_TrustDeskModel_withdraws_17 (by decide) (by decide) ?_
          refine mv_iconst (v := 0) d_TrustDeskModel_withdraws_43 (by decide) ?_
          exact mv_iret d_TrustDeskModel_withdraws_44 rfl (by decide) ⟨_, I2, _, rfl, by decide, by decide, R5⟩
        · refine mv_iconst (v := 1) d_TrustDeskModel_isPerson_10 (by decide) ?_
          refine mv_goto (tgt := 15) d_TrustDeskModel_isPerson_11 (by decide) ?_
          refine mv_iret d_TrustDeskModel_isPerson_15 rfl (by decide) ?_
          refine mv_if_eq_f (tgt := 43) d_TrustDeskModel_withdraws_17 (by decide) (by decide) ?_
          refine mv_aload_n d_TrustDeskModel_withdraws_20 rfl rfl ?_
          obtain ⟨a16, q15, t_a16⟩ := tm_atR I2 h_o0 (k := 59) rfl
          refine tr_getK q15 d_TrustDeskModel_withdraws_21 f_TrustDeskModel_137_13 ?_
          refine mv_iload_n d_TrustDeskModel_withdraws_24 rfl rfl ?_
          refine tr_ialdR (o := o0) (k := 59) I2 q15 t_a16 (by decide) d_TrustDeskModel_withdraws_25 (vp_in_iff.mpr (by omega)) (fun v17 e18 => ?_)
          have := mz_hi v17
          refine mv_if_neZ (tgt := 43) (a := v17.toInt) d_TrustDeskModel_withdraws_26 (by decide) rfl (fun b19 => ?_) (fun b19 => ?_)
          · refine mv_iconst (v := 0) d_TrustDeskModel_withdraws_43 (by decide) ?_
            exact mv_iret d_TrustDeskModel_withdraws_44 rfl (by decide) ⟨_, I2, _, rfl, by decide, by decide, R5⟩
          · refine mv_aload_n d_TrustDeskModel_withdraws_29 rfl rfl ?_
            obtain ⟨a21, q20, t_a21⟩ := tm_atR I2 h_o0 (k := 61) rfl
            refine tr_getK q20 d_TrustDeskModel_withdraws_30 f_TrustDeskModel_143_13 ?_
            refine mv_bipush (v := 100) d_TrustDeskModel_withdraws_33 (by decide) ?_
            refine mv_iload_n d_TrustDeskModel_withdraws_35 rfl rfl ?_
            refine mv_imul d_TrustDeskModel_withdraws_36 ?_
            refine mv_iload_n d_TrustDeskModel_withdraws_37 rfl rfl ?_
            refine mv_iadd d_TrustDeskModel_withdraws_38 ?_
            have b22 : (100 * x1 : Int32).toInt = (100 * x1.toInt) := mz_mul2 (by decide) rfl (by omega) (by omega)
            have b23 : ((100 * x1) + x2 : Int32).toInt = ((100 * x1.toInt) + x2.toInt) := mz_add2 b22 rfl (by omega) (by omega)
            refine tr_zaldR (o := o0) (k := 61) I2 q20 t_a21 (by decide) d_TrustDeskModel_withdraws_39 (vp_in_iff.mpr (by omega)) (fun v24 e25 => ?_)
            have := mz_hi v24
            refine mv_if_neZ (tgt := 45) (a := v24.toInt) d_TrustDeskModel_withdraws_40 (by decide) rfl (fun b26 => ?_) (fun b26 => ?_)
            · refine mv_aload_n d_TrustDeskModel_withdraws_45 rfl rfl ?_
              refine tr_getK (k := 61) q20 d_TrustDeskModel_withdraws_46 f_TrustDeskModel_143_13 ?_
              refine mv_bipush (v := 100) d_TrustDeskModel_withdraws_49 (by decide) ?_
              refine mv_iload_n d_TrustDeskModel_withdraws_51 rfl rfl ?_
              refine mv_imul d_TrustDeskModel_withdraws_52 ?_
              refine mv_iload_n d_TrustDeskModel_withdraws_53 rfl rfl ?_
              refine mv_iadd d_TrustDeskModel_withdraws_54 ?_
              refine mv_iconst (v := 0) d_TrustDeskModel_withdraws_55 (by decide) ?_
              have b27 : (100 * x1 : Int32).toInt = (100 * x1.toInt) := mz_mul2 (by decide) rfl (by omega) (by omega)
              have b28 : ((100 * x1) + x2 : Int32).toInt = ((100 * x1.toInt) + x2.toInt) := mz_add2 b27 rfl (by omega) (by omega)
              refine tr_zastR (k := 61) I2 R5 (I2.up h_o0) q20 t_a21 (by decide) (by decide) rfl (Or.inl (by decide)) d_TrustDeskModel_withdraws_56 (vp_in_iff.mpr (by omega)) (fun M29 I30 K31 R32 A34 V35 => ?_)
              refine mv_iconst (v := 1) d_TrustDeskModel_withdraws_57 (by decide) ?_
              exact mv_iret d_TrustDeskModel_withdraws_58 rfl (by decide) ⟨_, I30, _, rfl, by decide, by decide, R32⟩
            · refine mv_iconst (v := 0) d_TrustDeskModel_withdraws_43 (by decide) ?_
              exact mv_iret d_TrustDeskModel_withdraws_44 rfl (by decide) ⟨_, I2, _, rfl, by decide, by decide, R5⟩
abbrev kY_TrustDeskModel_scheme : mj_Y := (⟨"TrustDeskModel", "scheme", "(II)I"⟩, prog_14_method_89_code, 3, (Option.some Jvm.ClassFile.FieldType.int))
theorem d_TrustDeskModel_scheme_0 : decode kY_TrustDeskModel_scheme.2.1 0 = .ok (.aload_n 0, 1) := by decide +kernel
theorem d_TrustDeskModel_scheme_1 : decode kY_TrustDeskModel_scheme.2.1 1 = .ok (.iconst 0, 1) := by decide +kernel
theorem d_TrustDeskModel_scheme_2 : decode kY_TrustDeskModel_scheme.2.1 2 = .ok (.putfield 1, 3) := by decide +kernel
theorem d_TrustDeskModel_scheme_5 : decode kY_TrustDeskModel_scheme.2.1 5 = .ok (.aload_n 0, 1) := by decide +kernel
theorem d_TrustDeskModel_scheme_6 : decode kY_TrustDeskModel_scheme.2.1 6 = .ok (.iload_n 1, 1) := by decide +kernel
theorem d_TrustDeskModel_scheme_7 : decode kY_TrustDeskModel_scheme.2.1 7 = .ok (.invokevirtual 506, 3) := by decide +kernel
theorem d_TrustDeskModel_scheme_10 : decode kY_TrustDeskModel_scheme.2.1 10 = .ok (.ifCond .ne 5, 3) := by decide +kernel
theorem d_TrustDeskModel_scheme_13 : decode kY_TrustDeskModel_scheme.2.1 13 = .ok (.iconst (-1), 1) := by decide +kernel
theorem d_TrustDeskModel_scheme_14 : decode kY_TrustDeskModel_scheme.2.1 14 = .ok (.ireturn, 1) := by decide +kernel
theorem d_TrustDeskModel_scheme_15 : decode kY_TrustDeskModel_scheme.2.1 15 = .ok (.iload_n 2, 1) := by decide +kernel
theorem d_TrustDeskModel_scheme_16 : decode kY_TrustDeskModel_scheme.2.1 16 = .ok (.tableswitch 124 0 9 #[56, 63, 70, 77, 84, 90, 97, 104, 110, 117], 56) := by decide +kernel
theorem d_TrustDeskModel_scheme_140 : decode kY_TrustDeskModel_scheme.2.1 140 = .ok (.iconst (-1), 1) := by decide +kernel
theorem d_TrustDeskModel_scheme_141 : decode kY_TrustDeskModel_scheme.2.1 141 = .ok (.ireturn, 1) := by decide +kernel
theorem d_TrustDeskModel_scheme_72 : decode kY_TrustDeskModel_scheme.2.1 72 = .ok (.aload_n 0, 1) := by decide +kernel
theorem d_TrustDeskModel_scheme_73 : decode kY_TrustDeskModel_scheme.2.1 73 = .ok (.getfield 122, 3) := by decide +kernel
theorem d_TrustDeskModel_scheme_76 : decode kY_TrustDeskModel_scheme.2.1 76 = .ok (.iload_n 1, 1) := by decide +kernel
theorem d_TrustDeskModel_scheme_77 : decode kY_TrustDeskModel_scheme.2.1 77 = .ok (.iaload, 1) := by decide +kernel
theorem d_TrustDeskModel_scheme_78 : decode kY_TrustDeskModel_scheme.2.1 78 = .ok (.ireturn, 1) := by decide +kernel
theorem d_TrustDeskModel_scheme_79 : decode kY_TrustDeskModel_scheme.2.1 79 = .ok (.aload_n 0, 1) := by decide +kernel
theorem d_TrustDeskModel_scheme_80 : decode kY_TrustDeskModel_scheme.2.1 80 = .ok (.getfield 125, 3) := by decide +kernel
theorem d_TrustDeskModel_scheme_83 : decode kY_TrustDeskModel_scheme.2.1 83 = .ok (.iload_n 1, 1) := by decide +kernel
theorem d_TrustDeskModel_scheme_84 : decode kY_TrustDeskModel_scheme.2.1 84 = .ok (.iaload, 1) := by decide +kernel
theorem d_TrustDeskModel_scheme_85 : decode kY_TrustDeskModel_scheme.2.1 85 = .ok (.ireturn, 1) := by decide +kernel
theorem d_TrustDeskModel_scheme_86 : decode kY_TrustDeskModel_scheme.2.1 86 = .ok (.aload_n 0, 1) := by decide +kernel
theorem d_TrustDeskModel_scheme_87 : decode kY_TrustDeskModel_scheme.2.1 87 = .ok (.getfield 128, 3) := by decide +kernel
theorem f_TrustDeskModel_128_13 : mj_fl "TrustDeskModel" 128 13 56 := ⟨kR_TrustDeskModel, kF_TrustDeskModel, 72, "TrustDeskModel", rfl, kg_13, by decide, (mj_in1 (List.mem_of_getElem? (i := 1442) (by decide +kernel)) rfl), Or.inl rfl⟩
theorem d_TrustDeskModel_scheme_90 : decode kY_TrustDeskModel_scheme.2.1 90 = .ok (.iload_n 1, 1) := by decide +kernel
theorem d_TrustDeskModel_scheme_91 : decode kY_TrustDeskModel_scheme.2.1 91 = .ok (.iaload, 1) := by decide +kernel
theorem d_TrustDeskModel_scheme_92 : decode kY_TrustDeskModel_scheme.2.1 92 = .ok (.ireturn, 1) := by decide +kernel
theorem d_TrustDeskModel_scheme_93 : decode kY_TrustDeskModel_scheme.2.1 93 = .ok (.aload_n 0, 1) := by decide +kernel
theorem d_TrustDeskModel_scheme_94 : decode kY_TrustDeskModel_scheme.2.1 94 = .ok (.getfield 131, 3) := by decide +kernel
theorem f_TrustDeskModel_131_13 : mj_fl "TrustDeskModel" 131 13 57 := ⟨kR_TrustDeskModel, kF_TrustDeskModel, 72, "TrustDeskModel", rfl, kg_13, by decide, (mj_in1 (List.mem_of_getElem? (i := 1443) (by decide +kernel)) rfl), Or.inl rfl⟩
theorem d_TrustDeskModel_scheme_97 : decode kY_TrustDeskModel_scheme.2.1 97 = .ok (.iload_n 1, 1) := by decide +kernel
theorem d_TrustDeskModel_scheme_98 : decode kY_TrustDeskModel_scheme.2.1 98 = .ok (.iaload, 1) := by decide +kernel
theorem d_TrustDeskModel_scheme_99 : decode kY_TrustDeskModel_scheme.2.1 99 = .ok (.ireturn, 1) := by decide +kernel
theorem d_TrustDeskModel_scheme_100 : decode kY_TrustDeskModel_scheme.2.1 100 = .ok (.aload_n 0, 1) := by decide +kernel
theorem d_TrustDeskModel_scheme_101 : decode kY_TrustDeskModel_scheme.2.1 101 = .ok (.iload_n 1, 1) := by decide +kernel
theorem d_TrustDeskModel_scheme_102 : decode kY_TrustDeskModel_scheme.2.1 102 = .ok (.invokevirtual 509, 3) := by decide +kernel
theorem d_TrustDeskModel_scheme_105 : decode kY_TrustDeskModel_scheme.2.1 105 = .ok (.ireturn, 1) := by decide +kernel
theorem d_TrustDeskModel_scheme_106 : decode kY_TrustDeskModel_scheme.2.1 106 = .ok (.aload_n 0, 1) := by decide +kernel
theorem d_TrustDeskModel_scheme_107 : decode kY_TrustDeskModel_scheme.2.1 107 = .ok (.getfield 137, 3) := by decide +kernel
theorem d_TrustDeskModel_scheme_110 : decode kY_TrustDeskModel_scheme.2.1 110 = .ok (.iload_n 1, 1) := by decide +kernel
theorem d_TrustDeskModel_scheme_111 : decode kY_TrustDeskModel_scheme.2.1 111 = .ok (.iaload, 1) := by decide +kernel
theorem d_TrustDeskModel_scheme_112 : decode kY_TrustDeskModel_scheme.2.1 112 = .ok (.ireturn, 1) := by decide +kernel
theorem d_TrustDeskModel_scheme_113 : decode kY_TrustDeskModel_scheme.2.1 113 = .ok (.aload_n 0, 1) := by decide +kernel
theorem d_TrustDeskModel_scheme_114 : decode kY_TrustDeskModel_scheme.2.1 114 = .ok (.getfield 140, 3) := by decide +kernel
theorem f_TrustDeskModel_140_13 : mj_fl "TrustDeskModel" 140 13 60 := ⟨kR_TrustDeskModel, kF_TrustDeskModel, 72, "TrustDeskModel", rfl, kg_13, by decide, (mj_in1 (List.mem_of_getElem? (i := 1446) (by decide +kernel)) rfl), Or.inl rfl⟩
theorem d_TrustDeskModel_scheme_117 : decode kY_TrustDeskModel_scheme.2.1 117 = .ok (.iload_n 1, 1) := by decide +kernel
theorem d_TrustDeskModel_scheme_118 : decode kY_TrustDeskModel_scheme.2.1 118 = .ok (.iaload, 1) := by decide +kernel
theorem d_TrustDeskModel_scheme_119 : decode kY_TrustDeskModel_scheme.2.1 119 = .ok (.ireturn, 1) := by decide +kernel
theorem d_TrustDeskModel_scheme_120 : decode kY_TrustDeskModel_scheme.2.1 120 = .ok (.aload_n 0, 1) := by decide +kernel
theorem d_TrustDeskModel_scheme_121 : decode kY_TrustDeskModel_scheme.2.1 121 = .ok (.iload_n 1, 1) := by decide +kernel
theorem d_TrustDeskModel_scheme_122 : decode kY_TrustDeskModel_scheme.2.1 122 = .ok (.invokevirtual 512, 3) := by decide +kernel
theorem d_TrustDeskModel_scheme_125 : decode kY_TrustDeskModel_scheme.2.1 125 = .ok (.ireturn, 1) := by decide +kernel
theorem d_TrustDeskModel_scheme_126 : decode kY_TrustDeskModel_scheme.2.1 126 = .ok (.aload_n 0, 1) := by decide +kernel
theorem d_TrustDeskModel_scheme_127 : decode kY_TrustDeskModel_scheme.2.1 127 = .ok (.iload_n 1, 1) := by decide +kernel
theorem d_TrustDeskModel_scheme_128 : decode kY_TrustDeskModel_scheme.2.1 128 = .ok (.iconst 1, 1) := by decide +kernel
theorem d_TrustDeskModel_scheme_129 : decode kY_TrustDeskModel_scheme.2.1 129 = .ok (.invokevirtual 557, 3) := by decide +kernel
theorem lV_TrustDeskModel_557 : mj_lV "TrustDeskModel" 557 kY_TrustDeskModel_saidSo 2 := ⟨⟨(mj_in1 (List.mem_of_getElem? (i := 1998) (by decide +kernel)) rfl), (mj_in1 (List.mem_of_getElem? (i := 10) (by decide +kernel)) rfl), (mj_in1 (List.mem_of_getElem? (i := 2001) (by decide +kernel)) rfl), by decide, rfl, by decide⟩, (mj_in1 (List.mem_of_getElem? (i := 2000) (by decide +kernel)) rfl), (mj_in (List.mem_append_left _ (List.mem_of_getElem? (i := 137) (by decide +kernel))) rfl)⟩
theorem d_TrustDeskModel_scheme_132 : decode kY_TrustDeskModel_scheme.2.1 132 = .ok (.ireturn, 1) := by decide +kernel
theorem d_TrustDeskModel_scheme_133 : decode kY_TrustDeskModel_scheme.2.1 133 = .ok (.aload_n 0, 1) := by decide +kernel
theorem d_TrustDeskModel_scheme_134 : decode kY_TrustDeskModel_scheme.2.1 134 = .ok (.iload_n 1, 1) := by decide +kernel
theorem d_TrustDeskModel_scheme_135 : decode kY_TrustDeskModel_scheme.2.1 135 = .ok (.iconst 2, 1) := by decide +kernel
theorem d_TrustDeskModel_scheme_136 : decode kY_TrustDeskModel_scheme.2.1 136 = .ok (.invokevirtual 557, 3) := by decide +kernel
theorem d_TrustDeskModel_scheme_139 : decode kY_TrustDeskModel_scheme.2.1 139 = .ok (.ireturn, 1) := by decide +kernel
def w_TrustDeskModel_scheme_x : List Nat := [1300]
set_option maxHeartbeats 100000000 in theorem tc_TrustDeskModel_scheme_x {g : mj_G} {l : Launch} {d : Nat} {T0 : tm_H} {M0 : mj_M} {n0 x9 : Nat} {o0 : Nat} {x1 : Int32} {x2 : Int32} (h_o0 : T0 o0 = some (0, 13, 0)) (yR : rI M0 o0) (I0 : tm_I tm_FT (tm_in w_TrustDeskModel_scheme_x) x9 T0 M0 n0 T0 M0 n0) : mj_Met g l kY_TrustDeskModel_scheme (d + 1) [.ref o0, .int x1, .int x2] M0 n0 0 0 (tm_Q tm_FT (tm_in w_TrustDeskModel_scheme_x) x9 T0 M0 n0 (fun r _ M => ∃ v : Int32, r = some (.int v) ∧ rI M o0)) := by
  refine mj_enter (by decide) (Nat.le_of_ble_eq_true rfl) ?_
  refine mv_aload_n d_TrustDeskModel_scheme_0 rfl rfl ?_
  refine mv_iconst (v := 0) d_TrustDeskModel_scheme_1 (by decide) ?_
  refine tr_putR (k := 0) I0 yR h_o0 rfl ⟨_, rfl⟩ (fun _ h => by cases h) rfl (fun lo hi h => by cases h) (Or.inl (by decide)) d_TrustDeskModel_scheme_2 p_TrustDeskModel_1_13 rfl rfl (fun M1 I2 q3 K4 R5 A6 V7 => ?_)
  refine mv_aload_n d_TrustDeskModel_scheme_5 rfl rfl ?_
  refine mv_iload_n d_TrustDeskModel_scheme_6 rfl rfl ?_
  obtain ⟨_, b8, -⟩ := I2.1 _ _ h_o0
  refine mv_callV (kc1 := 0) (ks1 := 0) (kc' := 0) (ks' := 0) (As := [.int x1]) (st9 := [.int x1, .ref o0]) d_TrustDeskModel_scheme_7 lV_TrustDeskModel_506 b8 rfl (mj_enter (by decide) (Nat.le_of_ble_eq_true rfl) ?_) rfl (Nat.le_of_ble_eq_true rfl) (Nat.le_of_ble_eq_true rfl) (Nat.le_of_ble_eq_true rfl) (hst := rfl) (fun _ _ _ h => h)
  refine mv_iload_n d_TrustDeskModel_isScheme_0 rfl rfl ?_
  have := mz_hi x1
  refine mv_if_ltZ (tgt := 16) (a := x1.toInt) d_TrustDeskModel_isScheme_1 (by decide) rfl (fun b9 => ?_) (fun b9 => ?_)
  · refine mv_iconst (v := 0) d_TrustDeskModel_isScheme_16 (by decide) ?_
    refine mv_iret d_TrustDeskModel_isScheme_17 rfl (by decide) ?_
    refine mv_if_ne_f (tgt := 15) d_TrustDeskModel_scheme_10 (by decide) (by decide) ?_
    refine mv_iconst (v := (-1)) d_TrustDeskModel_scheme_13 (by decide) ?_
    exact mv_iret d_TrustDeskModel_scheme_14 rfl (by first | rfl | decide) ⟨_, I2, _, rfl, R5⟩
  · refine mv_iload_n d_TrustDeskModel_isScheme_4 rfl rfl ?_
    refine mv_aload_n d_TrustDeskModel_isScheme_5 rfl rfl ?_
    obtain ⟨v11, q10⟩ := tm_atI I2 h_o0 (k := 53) rfl
    refine tr_getK q10 d_TrustDeskModel_isScheme_6 f_TrustDeskModel_501_13 ?_
    have := R5.f (k := 53) q10 rfl
    have := mz_hi x1
    have := mz_hi v11
    refine mv_icmp_geZ (tgt := 16) (a := x1.toInt) (b := v11.toInt) d_TrustDeskModel_isScheme_9 (by decide) rfl rfl (fun b12 => ?_) (fun b12 => ?_)
    · refine mv_iconst (v := 0) d_TrustDeskModel_isScheme_16 (by decide) ?_
      refine mv_iret d_TrustDeskModel_isScheme_17 rfl (by decide) ?_
      refine mv_if_ne_f (tgt := 15) d_TrustDeskModel_scheme_10 (by decide) (by decide) ?_
      refine mv_iconst (v := (-1)) d_TrustDeskModel_scheme_13 (by decide) ?_
      exact mv_iret d_TrustDeskModel_scheme_14 rfl (by first | rfl | decide) ⟨_, I2, _, rfl, R5⟩
    · refine mv_iconst (v := 1) d_TrustDeskModel_isScheme_12 (by decide) ?_
      refine mv_goto (tgt := 17) d_TrustDeskModel_isScheme_13 (by decide) ?_
      refine mv_iret d_TrustDeskModel_isScheme_17 rfl (by decide) ?_
      refine mv_if_ne_t (tgt := 15) d_TrustDeskModel_scheme_10 (by decide) (by decide) ?_
      refine mv_iload_n d_TrustDeskModel_scheme_15 rfl rfl ?_
      rcases (show (x2.toInt < 0 ∨ 9 < x2.toInt) ∨ x2.toInt = 0 ∨ x2.toInt = 1 ∨ x2.toInt = 2 ∨ x2.toInt = 3 ∨ x2.toInt = 4 ∨ x2.toInt = 5 ∨ x2.toInt = 6 ∨ x2.toInt = 7 ∨ x2.toInt = 8 ∨ x2.toInt = 9 by omega) with b13 | b13 | b13 | b13 | b13 | b13 | b13 | b13 | b13 | b13 | b13
      · refine mv_tableOut (tgt := 140) d_TrustDeskModel_scheme_16 b13 (by decide) ?_
        refine mv_iconst (v := (-1)) d_TrustDeskModel_scheme_140 (by decide) ?_
        exact mv_iret d_TrustDeskModel_scheme_141 rfl (by first | rfl | decide) ⟨_, I2, _, rfl, R5⟩
      · refine mv_tableIn (tgt := 72) (off := 56) d_TrustDeskModel_scheme_16 (by omega) (by omega) (by rw [b13]; rfl) (by decide) ?_
        refine mv_aload_n d_TrustDeskModel_scheme_72 rfl rfl ?_
        obtain ⟨a15, q14, t_a15⟩ := tm_atR I2 h_o0 (k := 54) rfl
        refine tr_getK q14 d_TrustDeskModel_scheme_73 f_TrustDeskModel_122_13 ?_
        refine mv_iload_n d_TrustDeskModel_scheme_76 rfl rfl ?_
        refine tr_ialdR (o := o0) (k := 54) I2 q14 t_a15 (by decide) d_TrustDeskModel_scheme_77 (vp_in_iff.mpr (by omega)) (fun v16 e17 => ?_)
        have := R5.a (k := 54) rfl (x1 : Int32).toNatClampNeg
        exact mv_iret d_TrustDeskModel_scheme_78 rfl (by first | rfl | decide) ⟨_, I2, _, rfl, R5⟩
      · refine mv_tableIn (tgt := 79) (off := 63) d_TrustDeskModel_scheme_16 (by omega) (by omega) (by rw [b13]; rfl) (by decide) ?_
        refine mv_aload_n d_TrustDeskModel_scheme_79 rfl rfl ?_
        obtain ⟨a19, q18, t_a19⟩ := tm_atR I2 h_o0 (k := 55) rfl
        refine tr_getK q18 d_TrustDeskModel_scheme_80 f_TrustDeskModel_125_13 ?_
        refine mv_iload_n d_TrustDeskModel_scheme_83 rfl rfl ?_
        refine tr_ialdR (o := o0) (k := 55) I2 q18 t_a19 (by decide) d_TrustDeskModel_scheme_84 (vp_in_iff.mpr (by omega)) (fun v20 e21 => ?_)
        have := R5.a (k := 55) rfl (x1 : Int32).toNatClampNeg
        exact mv_iret d_TrustDeskModel_scheme_85 rfl (by first | rfl | decide) ⟨_, I2, _, rfl, R5⟩
      · refine mv_tableIn (tgt := 86) (off := 70) d_TrustDeskModel_scheme_16 (by omega) (by omega) (by rw [b13]; rfl) (by decide) ?_
        refine mv_aload_n d_TrustDeskModel_scheme_86 rfl rfl ?_
        obtain ⟨a23, q22, t_a23⟩ := tm_atR I2 h_o0 (k := 56) rfl
        refine tr_getK q22 d_TrustDeskModel_scheme_87 f_TrustDeskModel_128_13 ?_
        refine mv_iload_n d_TrustDeskModel_scheme_90 rfl rfl ?_
        refine tr_ialdR (o := o0) (k := 56) I2 q22 t_a23 (by decide) d_TrustDeskModel_scheme_91 (vp_in_iff.mpr (by omega)) (fun v24 e25 => ?_)
        exact mv_iret d_TrustDeskModel_scheme_92 rfl (by first | rfl | decide) ⟨_, I2, _, rfl, R5⟩
      · refine mv_tableIn (tgt := 93) (off := 77) d_TrustDeskModel_scheme_16 (by omega) (by omega) (by rw [b13]; rfl) (by decide) ?_
        refine mv_aload_n d_TrustDeskModel_scheme_93 rfl rfl ?_
        obtain ⟨a27, q26, t_a27⟩ := tm_atR I2 h_o0 (k := 57) rfl
        refine tr_getK q26 d_TrustDeskModel_scheme_94 f_TrustDeskModel_131_13 ?_
        refine mv_iload_n d_TrustDeskModel_scheme_97 rfl rfl ?_
        refine tr_ialdR (o := o0) (k := 57) I2 q26 t_a27 (by decide) d_TrustDeskModel_scheme_98 (vp_in_iff.mpr (by omega)) (fun v28 e29 => ?_)
        exact mv_iret d_TrustDeskModel_scheme_99 rfl (by first | rfl | decide) ⟨_, I2, _, rfl, R5⟩
      · refine mv_tableIn (tgt := 100) (off := 84) d_TrustDeskModel_scheme_16 (by omega) (by omega) (by rw [b13]; rfl) (by decide) ?_
        refine mv_aload_n d_TrustDeskModel_scheme_100 rfl rfl ?_
        refine mv_iload_n d_TrustDeskModel_scheme_101 rfl rfl ?_
        obtain ⟨_, b30, -⟩ := I2.1 _ _ h_o0
        refine mv_callV (kc1 := 0) (ks1 := 0) (kc' := 0) (ks' := 0) (As := [.int x1]) (st9 := [.int x1, .ref o0]) d_TrustDeskModel_scheme_102 lV_TrustDeskModel_509 b30 rfl (mj_enter (by decide) (Nat.le_of_ble_eq_true rfl) ?_) rfl (Nat.le_of_ble_eq_true rfl) (Nat.le_of_ble_eq_true rfl) (Nat.le_of_ble_eq_true rfl) (hst := rfl) (fun _ _ _ h => h)
        refine mv_aload_n d_TrustDeskModel_lastDay_0 rfl rfl ?_
        obtain ⟨a32, q31, t_a32⟩ := tm_atR I2 h_o0 (k := 58) rfl
        refine tr_getK q31 d_TrustDeskModel_lastDay_1 f_TrustDeskModel_134_13 ?_
        refine mv_iload_n d_TrustDeskModel_lastDay_4 rfl rfl ?_
        refine tr_ialdR (o := o0) (k := 58) I2 q31 t_a32 (by decide) d_TrustDeskModel_lastDay_5 (vp_in_iff.mpr (by omega)) (fun v33 e34 => ?_)
        refine mv_iret d_TrustDeskModel_lastDay_6 rfl (by first | rfl | decide) ?_
        exact mv_iret d_TrustDeskModel_scheme_105 rfl (by first | rfl | decide) ⟨_, I2, _, rfl, R5⟩
      · refine mv_tableIn (tgt := 106) (off := 90) d_TrustDeskModel_scheme_16 (by omega) (by omega) (by rw [b13]; rfl) (by decide) ?_
        refine mv_aload_n d_TrustDeskModel_scheme_106 rfl rfl ?_
        obtain ⟨a36, q35, t_a36⟩ := tm_atR I2 h_o0 (k := 59) rfl
        refine tr_getK q35 d_TrustDeskModel_scheme_107 f_TrustDeskModel_137_13 ?_
        refine mv_iload_n d_TrustDeskModel_scheme_110 rfl rfl ?_
        refine tr_ialdR (o := o0) (k := 59) I2 q35 t_a36 (by decide) d_TrustDeskModel_scheme_111 (vp_in_iff.mpr (by omega)) (fun v37 e38 => ?_)
        exact mv_iret d_TrustDeskModel_scheme_112 rfl (by first | rfl | decide) ⟨_, I2, _, rfl, R5⟩
      · refine mv_tableIn (tgt := 113) (off := 97) d_TrustDeskModel_scheme_16 (by omega) (by omega) (by rw [b13]; rfl) (by decide) ?_
        refine mv_aload_n d_TrustDeskModel_scheme_113 rfl rfl ?_
        obtain ⟨a40, q39, t_a40⟩ := tm_atR I2 h_o0 (k := 60) rfl
        refine tr_getK q39 d_TrustDeskModel_scheme_114 f_TrustDeskModel_140_13 ?_
        refine mv_iload_n d_TrustDeskModel_scheme_117 rfl rfl ?_
        refine tr_ialdR (o := o0) (k := 60) I2 q39 t_a40 (by decide) d_TrustDeskModel_scheme_118 (vp_in_iff.mpr (by omega)) (fun v41 e42 => ?_)
        exact mv_iret d_TrustDeskModel_scheme_119 rfl (by first | rfl | decide) ⟨_, I2, _, rfl, R5⟩
      · refine mv_tableIn (tgt := 120) (off := 104) d_TrustDeskModel_scheme_16 (by omega) (by omega) (by rw [b13]; rfl) (by decide) ?_
        refine mv_aload_n d_TrustDeskModel_scheme_120 rfl rfl ?_
        refine mv_iload_n d_TrustDeskModel_scheme_121 rfl rfl ?_
        obtain ⟨_, b49, -⟩ := I2.1 _ _ h_o0
        refine mv_callV (kc' := 0) (ks' := 0) (As := [.int x1]) (st9 := [.int x1, .ref o0]) d_TrustDeskModel_scheme_122 lV_TrustDeskModel_512 b49 rfl (tc_TrustDeskModel_against_x (d := d) (x9 := x9) (o0 := o0) (x1 := x1) h_o0 (by omega) R5 I2.start) rfl (Nat.le_of_ble_eq_true rfl) (Nat.le_of_ble_eq_true rfl) (Nat.le_of_ble_eq_true rfl) (hst := rfl) (fun b43r M44 n45 b43 => ?_)
        obtain ⟨T46, J47, v50, rfl, R51⟩ := b43
        have I48 := I2.call J47 (tm_sub (by decide)) (Or.inl rfl)
        have t52 := J47.up h_o0
        have q53 := J47.keep h_o0 (by decide) q3
        have q54 := J47.keep h_o0 (by decide) q10
        exact mv_iret d_TrustDeskModel_scheme_125 rfl (by first | rfl | decide) ⟨_, I48, _, rfl, R51⟩
      · refine mv_tableIn (tgt := 126) (off := 110) d_TrustDeskModel_scheme_16 (by omega) (by omega) (by rw [b13]; rfl) (by decide) ?_
        refine mv_aload_n d_TrustDeskModel_scheme_126 rfl rfl ?_
        refine mv_iload_n d_TrustDeskModel_scheme_127 rfl rfl ?_
        refine mv_iconst (v := 1) d_TrustDeskModel_scheme_128 (by decide) ?_
        obtain ⟨_, b61, -⟩ := I2.1 _ _ h_o0
        have : (1 : Int32).toInt = 1 := by decide
        refine mv_callV (kc' := 0) (ks' := 0) (As := [.int x1, .int 1]) (st9 := [.int 1, .int x1, .ref o0]) d_TrustDeskModel_scheme_129 lV_TrustDeskModel_557 b61 rfl (tc_TrustDeskModel_saidSo_x (d := d) (x9 := x9) (o0 := o0) (x1 := x1) (x2 := 1) h_o0 (by omega) R5 I2.start) rfl (Nat.le_of_ble_eq_true rfl) (Nat.le_of_ble_eq_true rfl) (Nat.le_of_ble_eq_true rfl) (hst := rfl) (fun b55r M56 n57 b55 => ?_)
        obtain ⟨T58, J59, v62, rfl, R63⟩ := b55
        have I60 := I2.call J59 (tm_sub (by decide)) (Or.inl rfl)
        have t64 := J59.up h_o0
        have q65 := J59.keep h_o0 (by decide) q3
        have q66 := J59.keep h_o0 (by decide) q10
        exact mv_iret d_TrustDeskModel_scheme_132 rfl (by first | rfl | decide) ⟨_, I60, _, rfl, R63⟩
      · refine mv_tableIn (tgt := 133) (off := 117) d_TrustDeskModel_scheme_16 (by omega) (by omega) (by rw [b13]; rfl) (by decide) ?_
        refine mv_aload_n d_TrustDeskModel_scheme_133 rfl rfl ?_
        refine mv_iload_n d_TrustDeskModel_scheme_134 rfl rfl ?_
        refine mv_iconst (v := 2) d_TrustDeskModel_scheme_135 (by decide) ?_
        obtain ⟨_, b73, -⟩ := I2.1 _ _ h_o0
        have : (2 : Int32).toInt = 2 := by decide
        refine mv_callV (kc' := 0) (ks' := 0) (As := [.int x1, .int 2]) (st9 := [.int 2, .int x1, .ref o0]) d_TrustDeskModel_scheme_136 lV_TrustDeskModel_557 b73 rfl (tc_TrustDeskModel_saidSo_x (d := d) (x9 := x9) (o0 := o0) (x1 := x1) (x2 := 2) h_o0 (by omega) R5 I2.start) rfl (Nat.le_of_ble_eq_true rfl) (Nat.le_of_ble_eq_true rfl) (Nat.le_of_ble_eq_true rfl) (hst := rfl) (fun b67r M68 n69 b67 => ?_)
        obtain ⟨T70, J71, v74, rfl, R75⟩ := b67
        have I72 := I2.call J71 (tm_sub (by decide)) (Or.inl rfl)
        have t76 := J71.up h_o0
        have q77 := J71.keep h_o0 (by decide) q3
        have q78 := J71.keep h_o0 (by decide) q10
        exact mv_iret d_TrustDeskModel_scheme_139 rfl (by first | rfl | decide) ⟨_, I72, _, rfl, R75⟩
abbrev kY_TrustDeskModel_marks : mj_Y := (⟨"TrustDeskModel", "marks", "(III)I"⟩, prog_14_method_91_code, 5, (Option.some Jvm.ClassFile.FieldType.int))
theorem d_TrustDeskModel_marks_0 : decode kY_TrustDeskModel_marks.2.1 0 = .ok (.aload_n 0, 1) := by decide +kernel
theorem d_TrustDeskModel_marks_1 : decode kY_TrustDeskModel_marks.2.1 1 = .ok (.iconst 0, 1) := by decide +kernel
theorem d_TrustDeskModel_marks_2 : decode kY_TrustDeskModel_marks.2.1 2 = .ok (.putfield 1, 3) := by decide +kernel
theorem d_TrustDeskModel_marks_5 : decode kY_TrustDeskModel_marks.2.1 5 = .ok (.aload_n 0, 1) := by decide +kernel
theorem d_TrustDeskModel_marks_6 : decode kY_TrustDeskModel_marks.2.1 6 = .ok (.iload_n 1, 1) := by decide +kernel
theorem d_TrustDeskModel_marks_7 : decode kY_TrustDeskModel_marks.2.1 7 = .ok (.invokevirtual 418, 3) := by decide +kernel
theorem d_TrustDeskModel_marks_10 : decode kY_TrustDeskModel_marks.2.1 10 = .ok (.ifCond .eq 25, 3) := by decide +kernel
theorem d_TrustDeskModel_marks_35 : decode kY_TrustDeskModel_marks.2.1 35 = .ok (.iconst (-1), 1) := by decide +kernel
theorem d_TrustDeskModel_marks_36 : decode kY_TrustDeskModel_marks.2.1 36 = .ok (.ireturn, 1) := by decide +kernel
theorem d_TrustDeskModel_marks_13 : decode kY_TrustDeskModel_marks.2.1 13 = .ok (.iload_n 2, 1) := by decide +kernel
theorem d_TrustDeskModel_marks_14 : decode kY_TrustDeskModel_marks.2.1 14 = .ok (.ifCond .lt 21, 3) := by decide +kernel
theorem d_TrustDeskModel_marks_17 : decode kY_TrustDeskModel_marks.2.1 17 = .ok (.iload_n 2, 1) := by decide +kernel
theorem d_TrustDeskModel_marks_18 : decode kY_TrustDeskModel_marks.2.1 18 = .ok (.aload_n 0, 1) := by decide +kernel
theorem d_TrustDeskModel_marks_19 : decode kY_TrustDeskModel_marks.2.1 19 = .ok (.getfield 435, 3) := by decide +kernel
theorem d_TrustDeskModel_marks_22 : decode kY_TrustDeskModel_marks.2.1 22 = .ok (.if_icmp .ge 13, 3) := by decide +kernel
theorem d_TrustDeskModel_marks_25 : decode kY_TrustDeskModel_marks.2.1 25 = .ok (.iload_n 3, 1) := by decide +kernel
theorem d_TrustDeskModel_marks_26 : decode kY_TrustDeskModel_marks.2.1 26 = .ok (.i2l, 1) := by decide +kernel
theorem d_TrustDeskModel_marks_27 : decode kY_TrustDeskModel_marks.2.1 27 = .ok (.lconst 0, 1) := by decide +kernel
theorem d_TrustDeskModel_marks_28 : decode kY_TrustDeskModel_marks.2.1 28 = .ok (.lconst 1, 1) := by decide +kernel
theorem d_TrustDeskModel_marks_29 : decode kY_TrustDeskModel_marks.2.1 29 = .ok (.invokestatic 169, 3) := by decide +kernel
theorem d_TrustDeskModel_marks_32 : decode kY_TrustDeskModel_marks.2.1 32 = .ok (.ifCond .ne 5, 3) := by decide +kernel
theorem d_TrustDeskModel_marks_37 : decode kY_TrustDeskModel_marks.2.1 37 = .ok (.aload_n 0, 1) := by decide +kernel
theorem d_TrustDeskModel_marks_38 : decode kY_TrustDeskModel_marks.2.1 38 = .ok (.getfield 116, 3) := by decide +kernel
theorem d_TrustDeskModel_marks_41 : decode kY_TrustDeskModel_marks.2.1 41 = .ok (.iload_n 2, 1) := by decide +kernel
theorem d_TrustDeskModel_marks_42 : decode kY_TrustDeskModel_marks.2.1 42 = .ok (.iaload, 1) := by decide +kernel
theorem d_TrustDeskModel_marks_43 : decode kY_TrustDeskModel_marks.2.1 43 = .ok (.istore 4, 2) := by decide +kernel
theorem d_TrustDeskModel_marks_45 : decode kY_TrustDeskModel_marks.2.1 45 = .ok (.aload_n 0, 1) := by decide +kernel
theorem d_TrustDeskModel_marks_46 : decode kY_TrustDeskModel_marks.2.1 46 = .ok (.getfield 76, 3) := by decide +kernel
theorem d_TrustDeskModel_marks_49 : decode kY_TrustDeskModel_marks.2.1 49 = .ok (.iload_n 1, 1) := by decide +kernel
theorem d_TrustDeskModel_marks_50 : decode kY_TrustDeskModel_marks.2.1 50 = .ok (.iaload, 1) := by decide +kernel
theorem d_TrustDeskModel_marks_51 : decode kY_TrustDeskModel_marks.2.1 51 = .ok (.iload_n 3, 1) := by decide +kernel
theorem d_TrustDeskModel_marks_52 : decode kY_TrustDeskModel_marks.2.1 52 = .ok (.ifCond .ne 8, 3) := by decide +kernel
theorem d_TrustDeskModel_marks_60 : decode kY_TrustDeskModel_marks.2.1 60 = .ok (.iload 4, 2) := by decide +kernel
theorem d_TrustDeskModel_marks_62 : decode kY_TrustDeskModel_marks.2.1 62 = .ok (.iconst (-1), 1) := by decide +kernel
theorem d_TrustDeskModel_marks_63 : decode kY_TrustDeskModel_marks.2.1 63 = .ok (.ixor, 1) := by decide +kernel
theorem d_TrustDeskModel_marks_64 : decode kY_TrustDeskModel_marks.2.1 64 = .ok (.iand, 1) := by decide +kernel
theorem d_TrustDeskModel_marks_65 : decode kY_TrustDeskModel_marks.2.1 65 = .ok (.invokestatic 444, 3) := by decide +kernel
theorem d_TrustDeskModel_marks_68 : decode kY_TrustDeskModel_marks.2.1 68 = .ok (.ireturn, 1) := by decide +kernel
theorem d_TrustDeskModel_marks_55 : decode kY_TrustDeskModel_marks.2.1 55 = .ok (.iload 4, 2) := by decide +kernel
theorem d_TrustDeskModel_marks_57 : decode kY_TrustDeskModel_marks.2.1 57 = .ok (.goto 7, 3) := by decide +kernel
def w_TrustDeskModel_marks_x : List Nat := [1300]
set_option maxHeartbeats 100000000 in theorem tc_TrustDeskModel_marks_x {g : mj_G} {l : Launch} {d : Nat} {T0 : tm_H} {M0 : mj_M} {n0 x9 : Nat} {o0 : Nat} {x1 : Int32} {x2 : Int32} {x3 : Int32} (h_o0 : T0 o0 = some (0, 13, 0)) (yR : rI M0 o0) (I0 : tm_I tm_FT (tm_in w_TrustDeskModel_marks_x) x9 T0 M0 n0 T0 M0 n0) : mj_Met g l kY_TrustDeskModel_marks (d + 1) [.ref o0, .int x1, .int x2, .int x3] M0 n0 0 0 (tm_Q tm_FT (tm_in w_TrustDeskModel_marks_x) x9 T0 M0 n0 (fun r _ M => ∃ v : Int32, r = some (.int v) ∧ rI M o0)) := by
  refine mj_enter (by decide) (Nat.le_of_ble_eq_true rfl) ?_
  refine mv_aload_n d_TrustDeskModel_marks_0 rfl rfl ?_
  refine mv_iconst (v := 0) d_TrustDeskModel_marks_1 (by decide) ?_
  refine tr_putR (k := 0) I0 yR h_o0 rfl ⟨_, rfl⟩ (fun _ h => by cases h) rfl (fun lo hi h => by cases h) (Or.inl (by decide)) d_TrustDeskModel_marks_2 p_TrustDeskModel_1_13 rfl rfl (fun M1 I2 q3 K4 R5 A6 V7 => ?_)
  refine mv_aload_n d_TrustDeskModel_marks_5 rfl rfl ?_
  refine mv_iload_n d_TrustDeskModel_marks_6 rfl rfl ?_
  obtain ⟨_, b8, -⟩ := I2.1 _ _ h_o0
  refine mv_callV (kc1 := 0) (ks1 := 0) (kc' := 0) (ks' := 0) (As := [.int x1]) (st9 := [.int x1, .ref o0]) d_TrustDeskModel_marks_7 lV_TrustDeskModel_418 b8 rfl (mj_enter (by decide) (Nat.le_of_ble_eq_true rfl) ?_) rfl (Nat.le_of_ble_eq_true rfl) (Nat.le_of_ble_eq_true rfl) (Nat.le_of_ble_eq_true rfl) (hst := rfl) (fun _ _ _ h => h)
  refine mv_iload_n d_TrustDeskModel_isFund_0 rfl rfl ?_
  have := mz_hi x1
  refine mv_if_ltZ (tgt := 16) (a := x1.toInt) d_TrustDeskModel_isFund_1 (by decide) rfl (fun b9 => ?_) (fun b9 => ?_)
  · refine mv_iconst (v := 0) d_TrustDeskModel_isFund_16 (by decide) ?_
    refine mv_iret d_TrustDeskModel_isFund_17 rfl (by decide) ?_
    refine mv_if_eq_t (tgt := 35) d_TrustDeskModel_marks_10 (by decide) (by decide) ?_
    refine mv_iconst (v := (-1)) d_TrustDeskModel_marks_35 (by decide) ?_
    exact mv_iret d_TrustDeskModel_marks_36 rfl (by first | rfl | decide) ⟨_, I2, _, rfl, R5⟩
  · refine mv_iload_n d_TrustDeskModel_isFund_4 rfl rfl ?_
    refine mv_aload_n d_TrustDeskModel_isFund_5 rfl rfl ?_
    obtain ⟨v11, q10⟩ := tm_atI I2 h_o0 (k := 32) rfl
    refine tr_getK q10 d_TrustDeskModel_isFund_6 f_TrustDeskModel_415_13 ?_
    have := R5.f (k := 32) q10 rfl
    have := mz_hi x1
    have := mz_hi v11
    refine mv_icmp_geZ (tgt := 16) (a := x1.toInt) (b := v11.toInt) d_TrustDeskModel_isFund_9 (by decide) rfl rfl (fun b12 => ?_) (fun b12 => ?_)
    · refine mv_iconst (v := 0) d_TrustDeskModel_isFund_16 (by decide) ?_
      refine mv_iret d_TrustDeskModel_isFund_17 rfl (by decide) ?_
      refine mv_if_eq_t (tgt := 35) d_TrustDeskModel_marks_10 (by decide) (by decide) ?_
      refine mv_iconst (v := (-1)) d_TrustDeskModel_marks_35 (by decide) ?_
      exact mv_iret d_TrustDeskModel_marks_36 rfl (by first | rfl | decide) ⟨_, I2, _, rfl, R5⟩
    · refine mv_iconst (v := 1) d_TrustDeskModel_isFund_12 (by decide) ?_
      refine mv_goto (tgt := 17) d_TrustDeskModel_isFund_13 (by decide) ?_
      refine mv_iret d_TrustDeskModel_isFund_17 rfl (by decide) ?_
      refine mv_if_eq_f (tgt := 35) d_TrustDeskModel_marks_10 (by decide) (by decide) ?_
      refine mv_iload_n d_TrustDeskModel_marks_13 rfl rfl ?_
      have := mz_hi x2
      refine mv_if_ltZ (tgt := 35) (a := x2.toInt) d_TrustDeskModel_marks_14 (by decide) rfl (fun b13 => ?_) (fun b13 => ?_)
      · refine mv_iconst (v := (-1)) d_TrustDeskModel_marks_35 (by decide) ?_
        exact mv_iret d_TrustDeskModel_marks_36 rfl (by first | rfl | decide) ⟨_, I2, _, rfl, R5⟩
      · refine mv_iload_n d_TrustDeskModel_marks_17 rfl rfl ?_
        refine mv_aload_n d_TrustDeskModel_marks_18 rfl rfl ?_
        obtain ⟨v15, q14⟩ := tm_atI I2 h_o0 (k := 49) rfl
        refine tr_getK q14 d_TrustDeskModel_marks_19 f_TrustDeskModel_435_13 ?_
        have := R5.f (k := 49) q14 rfl
        have := mz_hi x2
        have := mz_hi v15
        refine mv_icmp_geZ (tgt := 35) (a := x2.toInt) (b := v15.toInt) d_TrustDeskModel_marks_22 (by decide) rfl rfl (fun b16 => ?_) (fun b16 => ?_)
        · refine mv_iconst (v := (-1)) d_TrustDeskModel_marks_35 (by decide) ?_
          exact mv_iret d_TrustDeskModel_marks_36 rfl (by first | rfl | decide) ⟨_, I2, _, rfl, R5⟩
        · refine mv_iload_n d_TrustDeskModel_marks_25 rfl rfl ?_
          refine mv_i2l (v := x3.toInt64) d_TrustDeskModel_marks_26 rfl ?_
          refine mv_lconst (v := 0) d_TrustDeskModel_marks_27 (by decide) ?_
          refine mv_lconst (v := 1) d_TrustDeskModel_marks_28 (by decide) ?_
          refine mv_callS (kc1 := 0) (ks1 := 0) (kc' := 0) (ks' := 0) (As := [.long x3.toInt64, .long 0, .long 1]) (st9 := [.long 1, .long 0, .long x3.toInt64]) d_TrustDeskModel_marks_29 lS_TrustDeskModel_169 (mj_enter (by decide) (Nat.le_of_ble_eq_true rfl) ?_) rfl (Nat.le_of_ble_eq_true rfl) (Nat.le_of_ble_eq_true rfl) (Nat.le_of_ble_eq_true rfl) (hst := rfl) (fun _ _ _ h => h)
          refine mv_lload_n d_TrustDeskModel_within_0 rfl rfl ?_
          refine mv_lload_n d_TrustDeskModel_within_1 rfl rfl ?_
          refine mv_lltZ (tgt := 17) (a := x3.toInt) (b := 0) d_TrustDeskModel_within_2 d_TrustDeskModel_within_3 (by decide) (mz_wide _) (by decide) (fun b17 => ?_) (fun b17 => ?_)
          · refine mv_iconst (v := 0) d_TrustDeskModel_within_17 (by decide) ?_
            refine mv_iret d_TrustDeskModel_within_18 rfl (by decide) ?_
            refine mv_if_ne_f (tgt := 37) d_TrustDeskModel_marks_32 (by decide) (by decide) ?_
            refine mv_iconst (v := (-1)) d_TrustDeskModel_marks_35 (by decide) ?_
            exact mv_iret d_TrustDeskModel_marks_36 rfl (by first | rfl | decide) ⟨_, I2, _, rfl, R5⟩
          · refine mv_lload_n d_TrustDeskModel_within_6 rfl rfl ?_
            refine mv_lload d_TrustDeskModel_within_7 rfl ?_
            refine mv_lgtZ (tgt := 17) (a := x3.toInt) (b := 1) d_TrustDeskModel_within_9 d_TrustDeskModel_within_10 (by decide) (mz_wide _) (by decide) (fun b18 => ?_) (fun b18 => ?_)
            · refine mv_iconst (v := 0) d_TrustDeskModel_within_17 (by decide) ?_
              refine mv_iret d_TrustDeskModel_within_18 rfl (by decide) ?_
              refine mv_if_ne_f (tgt := 37) d_TrustDeskModel_marks_32 (by decide) (by decide) ?_
              refine mv_iconst (v := (-1)) d_TrustDeskModel_marks_35 (by decide) ?_
              exact mv_iret d_TrustDeskModel_marks_36 rfl (by first | rfl | decide) ⟨_, I2, _, rfl, R5⟩
            · refine mv_iconst (v := 1) d_TrustDeskModel_within_13 (by decide) ?_
              refine mv_goto (tgt := 18) d_TrustDeskModel_within_14 (by decide) ?_
              refine mv_iret d_TrustDeskModel_within_18 rfl (by decide) ?_
              refine mv_if_ne_t (tgt := 37) d_TrustDeskModel_marks_32 (by decide) (by decide) ?_
              refine mv_aload_n d_TrustDeskModel_marks_37 rfl rfl ?_
              obtain ⟨a20, q19, t_a20⟩ := tm_atR I2 h_o0 (k := 50) rfl
              refine tr_getK q19 d_TrustDeskModel_marks_38 f_TrustDeskModel_116_13 ?_
              refine mv_iload_n d_TrustDeskModel_marks_41 rfl rfl ?_
              refine tr_ialdR (o := o0) (k := 50) I2 q19 t_a20 (by decide) d_TrustDeskModel_marks_42 (vp_in_iff.mpr (by omega)) (fun v21 e22 => ?_)
              refine mv_istore (lv' := [(4, .int v21), (0, .ref o0), (1, .int x1), (2, .int x2), (3, .int x3)]) d_TrustDeskModel_marks_43 (by decide) rfl ?_
              refine mv_aload_n d_TrustDeskModel_marks_45 rfl rfl ?_
              obtain ⟨a24, q23, t_a24⟩ := tm_atR I2 h_o0 (k := 36) rfl
              refine tr_getK q23 d_TrustDeskModel_marks_46 f_TrustDeskModel_76_13 ?_
              refine mv_iload_n d_TrustDeskModel_marks_49 rfl rfl ?_
              refine tr_ialdR (o := o0) (k := 36) I2 q23 t_a24 (by decide) d_TrustDeskModel_marks_50 (vp_in_iff.mpr (by omega)) (fun v25 e26 => ?_)
              refine mv_iload_n d_TrustDeskModel_marks_51 rfl rfl ?_
              have := mz_hi x3
              refine mv_if_neZ (tgt := 60) (a := x3.toInt) d_TrustDeskModel_marks_52 (by decide) rfl (fun b27 => ?_) (fun b27 => ?_)
              · refine mv_iload d_TrustDeskModel_marks_60 rfl ?_
                refine mv_iconst (v := (-1)) d_TrustDeskModel_marks_62 (by decide) ?_
                refine mv_ixor d_TrustDeskModel_marks_63 ?_
                refine mv_iand d_TrustDeskModel_marks_64 ?_
                refine mv_callS (kc' := 0) (ks' := 0) (As := [.int (v25 &&& (v21 ^^^ (-1)))]) (st9 := [.int (v25 &&& (v21 ^^^ (-1)))]) d_TrustDeskModel_marks_65 lS_TrustDeskModel_444 (tc_TrustDeskModel_size (d := d) (x9 := x9) (x1 := (v25 &&& (v21 ^^^ (-1))))  I2.start) rfl (Nat.le_of_ble_eq_true rfl) (Nat.le_of_ble_eq_true rfl) (Nat.le_of_ble_eq_true rfl) (hst := rfl) (fun b28r M29 n30 b28 => ?_)
                obtain ⟨T31, J32, v34, rfl⟩ := b28
                have I33 := I2.call J32 (tm_sub (by decide)) (Or.inl rfl)
                have t35 := J32.up h_o0
                have R36 := rI_call I2 J32 (I2.up h_o0) (fun _ _ => rfl) (fun _ _ => rfl) R5
                have q37 := J32.keep h_o0 (by decide) q3
                have q38 := J32.keep h_o0 (by decide) q10
                have q39 := J32.keep h_o0 (by decide) q14
                have q40 := J32.keep h_o0 (by decide) q19
                have t41 := J32.up t_a20
                have q42 := J32.keep h_o0 (by decide) q23
                have t43 := J32.up t_a24
                exact mv_iret d_TrustDeskModel_marks_68 rfl (by first | rfl | decide) ⟨_, I33, _, rfl, R36⟩
              · refine mv_iload d_TrustDeskModel_marks_55 rfl ?_
                refine mv_goto (tgt := 64) d_TrustDeskModel_marks_57 (by decide) ?_
                refine mv_iand d_TrustDeskModel_marks_64 ?_
                refine mv_callS (kc' := 0) (ks' := 0) (As := [.int (v25 &&& v21)]) (st9 := [.int (v25 &&& v21)]) d_TrustDeskModel_marks_65 lS_TrustDeskModel_444 (tc_TrustDeskModel_size (d := d) (x9 := x9) (x1 := (v25 &&& v21))  I2.start) rfl (Nat.le_of_ble_eq_true rfl) (Nat.le_of_ble_eq_true rfl) (Nat.le_of_ble_eq_true rfl) (hst := rfl) (fun b44r M45 n46 b44 => ?_)
                obtain ⟨T47, J48, v50, rfl⟩ := b44
                have I49 := I2.call J48 (tm_sub (by decide)) (Or.inl rfl)
                have t51 := J48.up h_o0
                have R52 := rI_call I2 J48 (I2.up h_o0) (fun _ _ => rfl) (fun _ _ => rfl) R5
                have q53 := J48.keep h_o0 (by decide) q3
                have q54 := J48.keep h_o0 (by decide) q10
                have q55 := J48.keep h_o0 (by decide) q14
                have q56 := J48.keep h_o0 (by decide) q19
                have t57 := J48.up t_a20
                have q58 := J48.keep h_o0 (by decide) q23
                have t59 := J48.up t_a24
                exact mv_iret d_TrustDeskModel_marks_68 rfl (by first | rfl | decide) ⟨_, I49, _, rfl, R52⟩
abbrev kY_TrustDeskModel_fundOf : mj_Y := (⟨"TrustDeskModel", "fundOf", "(II)I"⟩, prog_14_method_102_code, 3, (Option.some Jvm.ClassFile.FieldType.int))
theorem d_TrustDeskModel_fundOf_0 : decode kY_TrustDeskModel_fundOf.2.1 0 = .ok (.aload_n 0, 1) := by decide +kernel
theorem d_TrustDeskModel_fundOf_1 : decode kY_TrustDeskModel_fundOf.2.1 1 = .ok (.iconst 0, 1) := by decide +kernel
theorem d_TrustDeskModel_fundOf_2 : decode kY_TrustDeskModel_fundOf.2.1 2 = .ok (.putfield 1, 3) := by decide +kernel
theorem d_TrustDeskModel_fundOf_5 : decode kY_TrustDeskModel_fundOf.2.1 5 = .ok (.aload_n 0, 1) := by decide +kernel
theorem d_TrustDeskModel_fundOf_6 : decode kY_TrustDeskModel_fundOf.2.1 6 = .ok (.iload_n 1, 1) := by decide +kernel
theorem d_TrustDeskModel_fundOf_7 : decode kY_TrustDeskModel_fundOf.2.1 7 = .ok (.invokevirtual 418, 3) := by decide +kernel
theorem d_TrustDeskModel_fundOf_10 : decode kY_TrustDeskModel_fundOf.2.1 10 = .ok (.ifCond .eq 15, 3) := by decide +kernel
theorem d_TrustDeskModel_fundOf_25 : decode kY_TrustDeskModel_fundOf.2.1 25 = .ok (.aload_n 0, 1) := by decide +kernel
theorem d_TrustDeskModel_fundOf_26 : decode kY_TrustDeskModel_fundOf.2.1 26 = .ok (.iconst 1, 1) := by decide +kernel
theorem d_TrustDeskModel_fundOf_27 : decode kY_TrustDeskModel_fundOf.2.1 27 = .ok (.putfield 1, 3) := by decide +kernel
theorem d_TrustDeskModel_fundOf_30 : decode kY_TrustDeskModel_fundOf.2.1 30 = .ok (.iconst 0, 1) := by decide +kernel
theorem d_TrustDeskModel_fundOf_31 : decode kY_TrustDeskModel_fundOf.2.1 31 = .ok (.ireturn, 1) := by decide +kernel
theorem d_TrustDeskModel_fundOf_13 : decode kY_TrustDeskModel_fundOf.2.1 13 = .ok (.iload_n 2, 1) := by decide +kernel
theorem d_TrustDeskModel_fundOf_14 : decode kY_TrustDeskModel_fundOf.2.1 14 = .ok (.i2l, 1) := by decide +kernel
theorem d_TrustDeskModel_fundOf_15 : decode kY_TrustDeskModel_fundOf.2.1 15 = .ok (.lconst 0, 1) := by decide +kernel
theorem d_TrustDeskModel_fundOf_16 : decode kY_TrustDeskModel_fundOf.2.1 16 = .ok (.ldc2_w 595, 3) := by decide +kernel
theorem k_TrustDeskModel_595 : Cond.constantLong "TrustDeskModel" 595 9 ∈ mj_T := (mj_in1 (List.mem_of_getElem? (i := 2057) (by decide +kernel)) rfl)
theorem d_TrustDeskModel_fundOf_19 : decode kY_TrustDeskModel_fundOf.2.1 19 = .ok (.invokestatic 169, 3) := by decide +kernel
theorem d_TrustDeskModel_fundOf_22 : decode kY_TrustDeskModel_fundOf.2.1 22 = .ok (.ifCond .ne 10, 3) := by decide +kernel
theorem d_TrustDeskModel_fundOf_32 : decode kY_TrustDeskModel_fundOf.2.1 32 = .ok (.iload_n 2, 1) := by decide +kernel
theorem d_TrustDeskModel_fundOf_33 : decode kY_TrustDeskModel_fundOf.2.1 33 = .ok (.tableswitch 113 0 8 #[51, 58, 65, 72, 79, 86, 93, 100, 106], 51) := by decide +kernel
theorem d_TrustDeskModel_fundOf_146 : decode kY_TrustDeskModel_fundOf.2.1 146 = .ok (.aload_n 0, 1) := by decide +kernel
theorem d_TrustDeskModel_fundOf_147 : decode kY_TrustDeskModel_fundOf.2.1 147 = .ok (.getfield 85, 3) := by decide +kernel
theorem d_TrustDeskModel_fundOf_150 : decode kY_TrustDeskModel_fundOf.2.1 150 = .ok (.iload_n 1, 1) := by decide +kernel
theorem d_TrustDeskModel_fundOf_151 : decode kY_TrustDeskModel_fundOf.2.1 151 = .ok (.iaload, 1) := by decide +kernel
theorem d_TrustDeskModel_fundOf_152 : decode kY_TrustDeskModel_fundOf.2.1 152 = .ok (.ireturn, 1) := by decide +kernel
theorem d_TrustDeskModel_fundOf_84 : decode kY_TrustDeskModel_fundOf.2.1 84 = .ok (.aload_n 0, 1) := by decide +kernel
theorem d_TrustDeskModel_fundOf_85 : decode kY_TrustDeskModel_fundOf.2.1 85 = .ok (.getfield 66, 3) := by decide +kernel
theorem d_TrustDeskModel_fundOf_88 : decode kY_TrustDeskModel_fundOf.2.1 88 = .ok (.iload_n 1, 1) := by decide +kernel
theorem d_TrustDeskModel_fundOf_89 : decode kY_TrustDeskModel_fundOf.2.1 89 = .ok (.iaload, 1) := by decide +kernel
theorem d_TrustDeskModel_fundOf_90 : decode kY_TrustDeskModel_fundOf.2.1 90 = .ok (.ireturn, 1) := by decide +kernel
theorem d_TrustDeskModel_fundOf_91 : decode kY_TrustDeskModel_fundOf.2.1 91 = .ok (.aload_n 0, 1) := by decide +kernel
theorem d_TrustDeskModel_fundOf_92 : decode kY_TrustDeskModel_fundOf.2.1 92 = .ok (.getfield 69, 3) := by decide +kernel
theorem d_TrustDeskModel_fundOf_95 : decode kY_TrustDeskModel_fundOf.2.1 95 = .ok (.iload_n 1, 1) := by decide +kernel
theorem d_TrustDeskModel_fundOf_96 : decode kY_TrustDeskModel_fundOf.2.1 96 = .ok (.iaload, 1) := by decide +kernel
theorem d_TrustDeskModel_fundOf_97 : decode kY_TrustDeskModel_fundOf.2.1 97 = .ok (.ireturn, 1) := by decide +kernel
theorem d_TrustDeskModel_fundOf_98 : decode kY_TrustDeskModel_fundOf.2.1 98 = .ok (.aload_n 0, 1) := by decide +kernel
theorem d_TrustDeskModel_fundOf_99 : decode kY_TrustDeskModel_fundOf.2.1 99 = .ok (.getfield 76, 3) := by decide +kernel
theorem d_TrustDeskModel_fundOf_102 : decode kY_TrustDeskModel_fundOf.2.1 102 = .ok (.iload_n 1, 1) := by decide +kernel
theorem d_TrustDeskModel_fundOf_103 : decode kY_TrustDeskModel_fundOf.2.1 103 = .ok (.iaload, 1) := by decide +kernel
theorem d_TrustDeskModel_fundOf_104 : decode kY_TrustDeskModel_fundOf.2.1 104 = .ok (.ireturn, 1) := by decide +kernel
theorem d_TrustDeskModel_fundOf_105 : decode kY_TrustDeskModel_fundOf.2.1 105 = .ok (.aload_n 0, 1) := by decide +kernel
theorem d_TrustDeskModel_fundOf_106 : decode kY_TrustDeskModel_fundOf.2.1 106 = .ok (.getfield 98, 3) := by decide +kernel
theorem d_TrustDeskModel_fundOf_109 : decode kY_TrustDeskModel_fundOf.2.1 109 = .ok (.iload_n 1, 1) := by decide +kernel
theorem d_TrustDeskModel_fundOf_110 : decode kY_TrustDeskModel_fundOf.2.1 110 = .ok (.iaload, 1) := by decide +kernel
theorem d_TrustDeskModel_fundOf_111 : decode kY_TrustDeskModel_fundOf.2.1 111 = .ok (.ireturn, 1) := by decide +kernel
theorem d_TrustDeskModel_fundOf_112 : decode kY_TrustDeskModel_fundOf.2.1 112 = .ok (.aload_n 0, 1) := by decide +kernel
theorem d_TrustDeskModel_fundOf_113 : decode kY_TrustDeskModel_fundOf.2.1 113 = .ok (.iload_n 1, 1) := by decide +kernel
theorem d_TrustDeskModel_fundOf_114 : decode kY_TrustDeskModel_fundOf.2.1 114 = .ok (.iconst 0, 1) := by decide +kernel
theorem d_TrustDeskModel_fundOf_115 : decode kY_TrustDeskModel_fundOf.2.1 115 = .ok (.invokevirtual 441, 3) := by decide +kernel
theorem d_TrustDeskModel_fundOf_118 : decode kY_TrustDeskModel_fundOf.2.1 118 = .ok (.ireturn, 1) := by decide +kernel
theorem d_TrustDeskModel_fundOf_119 : decode kY_TrustDeskModel_fundOf.2.1 119 = .ok (.aload_n 0, 1) := by decide +kernel
theorem d_TrustDeskModel_fundOf_120 : decode kY_TrustDeskModel_fundOf.2.1 120 = .ok (.iload_n 1, 1) := by decide +kernel
theorem d_TrustDeskModel_fundOf_121 : decode kY_TrustDeskModel_fundOf.2.1 121 = .ok (.iconst 1, 1) := by decide +kernel
theorem d_TrustDeskModel_fundOf_122 : decode kY_TrustDeskModel_fundOf.2.1 122 = .ok (.invokevirtual 441, 3) := by decide +kernel
theorem d_TrustDeskModel_fundOf_125 : decode kY_TrustDeskModel_fundOf.2.1 125 = .ok (.ireturn, 1) := by decide +kernel
theorem d_TrustDeskModel_fundOf_126 : decode kY_TrustDeskModel_fundOf.2.1 126 = .ok (.aload_n 0, 1) := by decide +kernel
theorem d_TrustDeskModel_fundOf_127 : decode kY_TrustDeskModel_fundOf.2.1 127 = .ok (.getfield 79, 3) := by decide +kernel
theorem d_TrustDeskModel_fundOf_130 : decode kY_TrustDeskModel_fundOf.2.1 130 = .ok (.iload_n 1, 1) := by decide +kernel
theorem d_TrustDeskModel_fundOf_131 : decode kY_TrustDeskModel_fundOf.2.1 131 = .ok (.iaload, 1) := by decide +kernel
theorem d_TrustDeskModel_fundOf_132 : decode kY_TrustDeskModel_fundOf.2.1 132 = .ok (.ireturn, 1) := by decide +kernel
theorem d_TrustDeskModel_fundOf_133 : decode kY_TrustDeskModel_fundOf.2.1 133 = .ok (.aload_n 0, 1) := by decide +kernel
theorem d_TrustDeskModel_fundOf_134 : decode kY_TrustDeskModel_fundOf.2.1 134 = .ok (.iload_n 1, 1) := by decide +kernel
theorem d_TrustDeskModel_fundOf_135 : decode kY_TrustDeskModel_fundOf.2.1 135 = .ok (.invokevirtual 498, 3) := by decide +kernel
theorem d_TrustDeskModel_fundOf_138 : decode kY_TrustDeskModel_fundOf.2.1 138 = .ok (.ireturn, 1) := by decide +kernel
theorem d_TrustDeskModel_fundOf_139 : decode kY_TrustDeskModel_fundOf.2.1 139 = .ok (.aload_n 0, 1) := by decide +kernel
theorem d_TrustDeskModel_fundOf_140 : decode kY_TrustDeskModel_fundOf.2.1 140 = .ok (.getfield 82, 3) := by decide +kernel
theorem d_TrustDeskModel_fundOf_143 : decode kY_TrustDeskModel_fundOf.2.1 143 = .ok (.iload_n 1, 1) := by decide +kernel
theorem d_TrustDeskModel_fundOf_144 : decode kY_TrustDeskModel_fundOf.2.1 144 = .ok (.iaload, 1) := by decide +kernel
theorem d_TrustDeskModel_fundOf_145 : decode kY_TrustDeskModel_fundOf.2.1 145 = .ok (.ireturn, 1) := by decide +kernel
def w_TrustDeskModel_fundOf_x : List Nat := [1300]
set_option maxHeartbeats 100000000 in theorem tc_TrustDeskModel_fundOf_x {g : mj_G} {l : Launch} {d : Nat} {T0 : tm_H} {M0 : mj_M} {n0 x9 : Nat} {o0 : Nat} {x1 : Int32} {x2 : Int32} (h_o0 : T0 o0 = some (0, 13, 0)) (yR : rI M0 o0) (I0 : tm_I tm_FT (tm_in w_TrustDeskModel_fundOf_x) x9 T0 M0 n0 T0 M0 n0) : mj_Met g l kY_TrustDeskModel_fundOf (d + 1) [.ref o0, .int x1, .int x2] M0 n0 0 0 (tm_Q tm_FT (tm_in w_TrustDeskModel_fundOf_x) x9 T0 M0 n0 (fun r _ M => ∃ v : Int32, r = some (.int v) ∧ rI M o0)) := by
  refine mj_enter (by decide) (Nat.le_of_ble_eq_true rfl) ?_
  refine mv_aload_n d_TrustDeskModel_fundOf_0 rfl rfl ?_
  refine mv_iconst (v := 0) d_TrustDeskModel_fundOf_1 (by decide) ?_
  refine tr_putR (k := 0) I0 yR h_o0 rfl ⟨_, rfl⟩ (fun _ h => by cases h) rfl (fun lo hi h => by cases h) (Or.inl (by decide)) d_TrustDeskModel_fundOf_2 p_TrustDeskModel_1_13 rfl rfl (fun M1 I2 q3 K4 R5 A6 V7 => ?_)
  refine mv_aload_n d_TrustDeskModel_fundOf_5 rfl rfl ?_
  refine mv_iload_n d_TrustDeskModel_fundOf_6 rfl rfl ?_
  obtain ⟨_, b8, -⟩ := I2.1 _ _ h_o0
  refine mv_callV (kc1 := 0) (ks1 := 0) (kc' := 0) (ks' := 0) (As := [.int x1]) (st9 := [.int x1, .ref o0]) d_TrustDeskModel_fundOf_7 lV_TrustDeskModel_418 b8 rfl (mj_enter (by decide) (Nat.le_of_ble_eq_true rfl) ?_) rfl (Nat.le_of_ble_eq_true rfl) (Nat.le_of_ble_eq_true rfl) (Nat.le_of_ble_eq_true rfl) (hst := rfl) (fun _ _ _ h => h)
  refine mv_iload_n d_TrustDeskModel_isFund_0 rfl rfl ?_
  have := mz_hi x1
  refine mv_if_ltZ (tgt := 16) (a := x1.toInt) d_TrustDeskModel_isFund_1 (by decide) rfl (fun b9 => ?_) (fun b9 => ?_)
  · refine mv_iconst (v := 0) d_TrustDeskModel_isFund_16 (by decide) ?_
    refine mv_iret d_TrustDeskModel_isFund_17 rfl (by decide) ?_
    refine mv_if_eq_t (tgt := 25) d_TrustDeskModel_fundOf_10 (by decide) (by decide) ?_
    refine mv_aload_n d_TrustDeskModel_fundOf_25 rfl rfl ?_
    refine mv_iconst (v := 1) d_TrustDeskModel_fundOf_26 (by decide) ?_
    refine tr_putR (k := 0) I2 R5 h_o0 rfl ⟨_, rfl⟩ (fun _ h => by cases h) rfl (fun lo hi h => by cases h) (Or.inl (by decide)) d_TrustDeskModel_fundOf_27 p_TrustDeskModel_1_13 rfl rfl (fun M10 I11 q12 K13 R14 A15 V16 => ?_)
    refine mv_iconst (v := 0) d_TrustDeskModel_fundOf_30 (by decide) ?_
    exact mv_iret d_TrustDeskModel_fundOf_31 rfl (by first | rfl | decide) ⟨_, I11, _, rfl, R14⟩
  · refine mv_iload_n d_TrustDeskModel_isFund_4 rfl rfl ?_
    refine mv_aload_n d_TrustDeskModel_isFund_5 rfl rfl ?_
    obtain ⟨v18, q17⟩ := tm_atI I2 h_o0 (k := 32) rfl
    refine tr_getK q17 d_TrustDeskModel_isFund_6 f_TrustDeskModel_415_13 ?_
    have := R5.f (k := 32) q17 rfl
    have := mz_hi x1
    have := mz_hi v18
    refine mv_icmp_geZ (tgt := 16) (a := x1.toInt) (b := v18.toInt) d_TrustDeskModel_isFund_9 (by decide) rfl rfl (fun b19 => ?_) (fun b19 => ?_)
    · refine mv_iconst (v := 0) d_TrustDeskModel_isFund_16 (by decide) ?_
      refine mv_iret d_TrustDeskModel_isFund_17 rfl (by decide) ?_
      refine mv_if_eq_t (tgt := 25) d_TrustDeskModel_fundOf_10 (by decide) (by decide) ?_
      refine mv_aload_n d_TrustDeskModel_fundOf_25 rfl rfl ?_
      refine mv_iconst (v := 1) d_TrustDeskModel_fundOf_26 (by decide) ?_
      refine tr_putR (k := 0) I2 R5 h_o0 rfl ⟨_, rfl⟩ (fun _ h => by cases h) rfl (fun lo hi h => by cases h) (Or.inl (by decide)) d_TrustDeskModel_fundOf_27 p_TrustDeskModel_1_13 rfl rfl (fun M20 I21 q22 K23 R24 A25 V26 => ?_)
      refine mv_iconst (v := 0) d_TrustDeskModel_fundOf_30 (by decide) ?_
      exact mv_iret d_TrustDeskModel_fundOf_31 rfl (by first | rfl | decide) ⟨_, I21, _, rfl, R24⟩
    · refine mv_iconst (v := 1) d_TrustDeskModel_isFund_12 (by decide) ?_
      refine mv_goto (tgt := 17) d_TrustDeskModel_isFund_13 (by decide) ?_
      refine mv_iret d_TrustDeskModel_isFund_17 rfl (by decide) ?_
      refine mv_if_eq_f (tgt := 25) d_TrustDeskModel_fundOf_10 (by decide) (by decide) ?_
      refine mv_iload_n d_TrustDeskModel_fundOf_13 rfl rfl ?_
      refine mv_i2l (v := x2.toInt64) d_TrustDeskModel_fundOf_14 rfl ?_
      refine mv_lconst (v := 0) d_TrustDeskModel_fundOf_15 (by decide) ?_
      refine mv_ldc2 d_TrustDeskModel_fundOf_16 k_TrustDeskModel_595 ?_
      refine mv_callS (kc1 := 0) (ks1 := 0) (kc' := 0) (ks' := 0) (As := [.long x2.toInt64, .long 0, .long 9]) (st9 := [.long 9, .long 0, .long x2.toInt64]) d_TrustDeskModel_fundOf_19 lS_TrustDeskModel_169 (mj_enter (by decide) (Nat.le_of_ble_eq_true rfl) ?_) rfl (Nat.le_of_ble_eq_true rfl) (Nat.le_of_ble_eq_true rfl) (Nat.le_of_ble_eq_true rfl) (hst := rfl) (fun _ _ _ h => h)
      refine mv_lload_n d_TrustDeskModel_within_0 rfl rfl ?_
      refine mv_lload_n d_TrustDeskModel_within_1 rfl rfl ?_
      refine mv_lltZ (tgt := 17) (a := x2.toInt) (b := 0) d_TrustDeskModel_within_2 d_TrustDeskModel_within_3 (by decide) (mz_wide _) (by decide) (fun b27 => ?_) (fun b27 => ?_)
      · refine mv_iconst (v := 0) d_TrustDeskModel_within_17 (by decide) ?_
        refine mv_iret d_TrustDeskModel_within_18 rfl (by decide) ?_
        refine mv_if_ne_f (tgt := 32) d_TrustDeskModel_fundOf_22 (by decide) (by decide) ?_
        refine mv_aload_n d_TrustDeskModel_fundOf_25 rfl rfl ?_
        refine mv_iconst (v := 1) d_TrustDeskModel_fundOf_26 (by decide) ?_
        refine tr_putR (k := 0) I2 R5 h_o0 rfl ⟨_, rfl⟩ (fun _ h => by cases h) rfl (fun lo hi h => by cases h) (Or.inl (by decide)) d_TrustDeskModel_fundOf_27 p_TrustDeskModel_1_13 rfl rfl (fun M28 I29 q30 K31 R32 A33 V34 => ?_)
        refine mv_iconst (v := 0) d_TrustDeskModel_fundOf_30 (by decide) ?_
        exact mv_iret d_TrustDeskModel_fundOf_31 rfl (by first | rfl | decide) ⟨_, I29, _, rfl, R32⟩
      · refine mv_lload_n d_TrustDeskModel_within_6 rfl rfl ?_
        refine mv_lload d_TrustDeskModel_within_7 rfl ?_
        refine mv_lgtZ (tgt := 17) (a := x2.toInt) (b := 9) d_TrustDeskModel_within_9 d_TrustDeskModel_within_10 (by decide) (mz_wide _) (by decide) (fun b35 => ?_) (fun b35 => ?_)
        · refine mv_iconst (v := 0) d_TrustDeskModel_within_17 (by decide) ?_
          refine mv_iret d_TrustDeskModel_within_18 rfl (by decide) ?_
          refine mv_if_ne_f (tgt := 32) d_TrustDeskModel_fundOf_22 (by decide) (by decide) ?_
          refine mv_aload_n d_TrustDeskModel_fundOf_25 rfl rfl ?_
          refine mv_iconst (v := 1) d_TrustDeskModel_fundOf_26 (by decide) ?_
          refine tr_putR (k := 0) I2 R5 h_o0 rfl ⟨_, rfl⟩ (fun _ h => by cases h) rfl (fun lo hi h => by cases h) (Or.inl (by decide)) d_TrustDeskModel_fundOf_27 p_TrustDeskModel_1_13 rfl rfl (fun M36 I37 q38 K39 R40 A41 V42 => ?_)
          refine mv_iconst (v := 0) d_TrustDeskModel_fundOf_30 (by decide) ?_
          exact mv_iret d_TrustDeskModel_fundOf_31 rfl (by first | rfl | decide) ⟨_, I37, _, rfl, R40⟩
        · refine mv_iconst (v := 1) d_TrustDeskModel_within_13 (by decide) ?_
          refine mv_goto (tgt := 18) d_TrustDeskModel_within_14 (by decide) ?_
          refine mv_iret d_TrustDeskModel_within_18 rfl (by decide) ?_
          refine mv_if_ne_t (tgt := 32) d_TrustDeskModel_fundOf_22 (by decide) (by decide) ?_
          refine mv_iload_n d_TrustDeskModel_fundOf_32 rfl rfl ?_
          rcases (show (x2.toInt < 0 ∨ 8 < x2.toInt) ∨ x2.toInt = 0 ∨ x2.toInt = 1 ∨ x2.toInt = 2 ∨ x2.toInt = 3 ∨ x2.toInt = 4 ∨ x2.toInt = 5 ∨ x2.toInt = 6 ∨ x2.toInt = 7 ∨ x2.toInt = 8 by omega) with b43 | b43 | b43 | b43 | b43 | b43 | b43 | b43 | b43 | b43
          · refine mv_tableOut (tgt := 146) d_TrustDeskModel_fundOf_33 b43 (by decide) ?_
            refine mv_aload_n d_TrustDeskModel_fundOf_146 rfl rfl ?_
            obtain ⟨a45, q44, t_a45⟩ := tm_atR I2 h_o0 (k := 39) rfl
            refine tr_getK q44 d_TrustDeskModel_fundOf_147 f_TrustDeskModel_85_13 ?_
            refine mv_iload_n d_TrustDeskModel_fundOf_150 rfl rfl ?_
            refine tr_ialdR (o := o0) (k := 39) I2 q44 t_a45 (by decide) d_TrustDeskModel_fundOf_151 (vp_in_iff.mpr (by omega)) (fun v46 e47 => ?_)
            exact mv_iret d_TrustDeskModel_fundOf_152 rfl (by first | rfl | decide) ⟨_, I2, _, rfl, R5⟩
          · refine mv_tableIn (tgt := 84) (off := 51) d_TrustDeskModel_fundOf_33 (by omega) (by omega) (by rw [b43]; rfl) (by decide) ?_
            refine mv_aload_n d_TrustDeskModel_fundOf_84 rfl rfl ?_
            obtain ⟨a49, q48, t_a49⟩ := tm_atR I2 h_o0 (k := 33) rfl
            refine tr_getK q48 d_TrustDeskModel_fundOf_85 f_TrustDeskModel_66_13 ?_
            refine mv_iload_n d_TrustDeskModel_fundOf_88 rfl rfl ?_
            refine tr_ialdR (o := o0) (k := 33) I2 q48 t_a49 (by decide) d_TrustDeskModel_fundOf_89 (vp_in_iff.mpr (by omega)) (fun v50 e51 => ?_)
            have := R5.a (k := 33) rfl (x1 : Int32).toNatClampNeg
            exact mv_iret d_TrustDeskModel_fundOf_90 rfl (by first | rfl | decide) ⟨_, I2, _, rfl, R5⟩
          · refine mv_tableIn (tgt := 91) (off := 58) d_TrustDeskModel_fundOf_33 (by omega) (by omega) (by rw [b43]; rfl) (by decide) ?_
            refine mv_aload_n d_TrustDeskModel_fundOf_91 rfl rfl ?_
            obtain ⟨a53, q52, t_a53⟩ := tm_atR I2 h_o0 (k := 34) rfl
            refine tr_getK q52 d_TrustDeskModel_fundOf_92 f_TrustDeskModel_69_13 ?_
            refine mv_iload_n d_TrustDeskModel_fundOf_95 rfl rfl ?_
            refine tr_ialdR (o := o0) (k := 34) I2 q52 t_a53 (by decide) d_TrustDeskModel_fundOf_96 (vp_in_iff.mpr (by omega)) (fun v54 e55 => ?_)
            have := R5.a (k := 34) rfl (x1 : Int32).toNatClampNeg
            exact mv_iret d_TrustDeskModel_fundOf_97 rfl (by first | rfl | decide) ⟨_, I2, _, rfl, R5⟩
          · refine mv_tableIn (tgt := 98) (off := 65) d_TrustDeskModel_fundOf_33 (by omega) (by omega) (by rw [b43]; rfl) (by decide) ?_
            refine mv_aload_n d_TrustDeskModel_fundOf_98 rfl rfl ?_
            obtain ⟨a57, q56, t_a57⟩ := tm_atR I2 h_o0 (k := 36) rfl
            refine tr_getK q56 d_TrustDeskModel_fundOf_99 f_TrustDeskModel_76_13 ?_
            refine mv_iload_n d_TrustDeskModel_fundOf_102 rfl rfl ?_
            refine tr_ialdR (o := o0) (k := 36) I2 q56 t_a57 (by decide) d_TrustDeskModel_fundOf_103 (vp_in_iff.mpr (by omega)) (fun v58 e59 => ?_)
            exact mv_iret d_TrustDeskModel_fundOf_104 rfl (by first | rfl | decide) ⟨_, I2, _, rfl, R5⟩
          · refine mv_tableIn (tgt := 105) (off := 72) d_TrustDeskModel_fundOf_33 (by omega) (by omega) (by rw [b43]; rfl) (by decide) ?_
            refine mv_aload_n d_TrustDeskModel_fundOf_105 rfl rfl ?_
            obtain ⟨a61, q60, t_a61⟩ := tm_atR I2 h_o0 (k := 43) rfl
            refine tr_getK q60 d_TrustDeskModel_fundOf_106 f_TrustDeskModel_98_13 ?_
            refine mv_iload_n d_TrustDeskModel_fundOf_109 rfl rfl ?_
            refine tr_ialdR (o := o0) (k := 43) I2 q60 t_a61 (by decide) d_TrustDeskModel_fundOf_110 (vp_in_iff.mpr (by omega)) (fun v62 e63 => ?_)
            have := R5.a (k := 43) rfl (x1 : Int32).toNatClampNeg
            exact mv_iret d_TrustDeskModel_fundOf_111 rfl (by first | rfl | decide) ⟨_, I2, _, rfl, R5⟩
          · refine mv_tableIn (tgt := 112) (off := 79) d_TrustDeskModel_fundOf_33 (by omega) (by omega) (by rw [b43]; rfl) (by decide) ?_
            refine mv_aload_n d_TrustDeskModel_fundOf_112 rfl rfl ?_
            refine mv_iload_n d_TrustDeskModel_fundOf_113 rfl rfl ?_
            refine mv_iconst (v := 0) d_TrustDeskModel_fundOf_114 (by decide) ?_
            obtain ⟨_, b70, -⟩ := I2.1 _ _ h_o0
            have : (0 : Int32).toInt = 0 := by decide
            refine mv_callV (kc' := 0) (ks' := 0) (As := [.int x1, .int 0]) (st9 := [.int 0, .int x1, .ref o0]) d_TrustDeskModel_fundOf_115 lV_TrustDeskModel_441 b70 rfl (tc_TrustDeskModel_howMany_x (d := d) (x9 := x9) (o0 := o0) (x1 := x1) (x2 := 0) h_o0 (by omega) R5 I2.start) rfl (Nat.le_of_ble_eq_true rfl) (Nat.le_of_ble_eq_true rfl) (Nat.le_of_ble_eq_true rfl) (hst := rfl) (fun b64r M65 n66 b64 => ?_)
            obtain ⟨T67, J68, v71, rfl, R72⟩ := b64
            have I69 := I2.call J68 (tm_sub (by decide)) (Or.inl rfl)
            have t73 := J68.up h_o0
            have q74 := J68.keep h_o0 (by decide) q3
            have q75 := J68.keep h_o0 (by decide) q17
            exact mv_iret d_TrustDeskModel_fundOf_118 rfl (by first | rfl | decide) ⟨_, I69, _, rfl, R72⟩
          · refine mv_tableIn (tgt := 119) (off := 86) d_TrustDeskModel_fundOf_33 (by omega) (by omega) (by rw [b43]; rfl) (by decide) ?_
            refine mv_aload_n d_TrustDeskModel_fundOf_119 rfl rfl ?_
            refine mv_iload_n d_TrustDeskModel_fundOf_120 rfl rfl ?_
            refine mv_iconst (v := 1) d_TrustDeskModel_fundOf_121 (by decide) ?_
            obtain ⟨_, b82, -⟩ := I2.1 _ _ h_o0
            have : (1 : Int32).toInt = 1 := by decide
            refine mv_callV (kc' := 0) (ks' := 0) (As := [.int x1, .int 1]) (st9 := [.int 1, .int x1, .ref o0]) d_TrustDeskModel_fundOf_122 lV_TrustDeskModel_441 b82 rfl (tc_TrustDeskModel_howMany_x (d := d) (x9 := x9) (o0 := o0) (x1 := x1) (x2 := 1) h_o0 (by omega) R5 I2.start) rfl (Nat.le_of_ble_eq_true rfl) (Nat.le_of_ble_eq_true rfl) (Nat.le_of_ble_eq_true rfl) (hst := rfl) (fun b76r M77 n78 b76 => ?_)
            obtain ⟨T79, J80, v83, rfl, R84⟩ := b76
            have I81 := I2.call J80 (tm_sub (by decide)) (Or.inl rfl)
            have t85 := J80.up h_o0
            have q86 := J80.keep h_o0 (by decide) q3
            have q87 := J80.keep h_o0 (by decide) q17
            exact mv_iret d_TrustDeskModel_fundOf_125 rfl (by first | rfl | decide) ⟨_, I81, _, rfl, R84⟩
          · refine mv_tableIn (tgt := 126) (off := 93) d_TrustDeskModel_fundOf_33 (by omega) (by omega) (by rw [b43]; rfl) (by decide) ?_
            refine mv_aload_n d_TrustDeskModel_fundOf_126 rfl rfl ?_
            obtain ⟨a89, q88, t_a89⟩ := tm_atR I2 h_o0 (k := 37) rfl
            refine tr_getK q88 d_TrustDeskModel_fundOf_127 f_TrustDeskModel_79_13 ?_
            refine mv_iload_n d_TrustDeskModel_fundOf_130 rfl rfl ?_
            refine tr_ialdR (o := o0) (k := 37) I2 q88 t_a89 (by decide) d_TrustDeskModel_fundOf_131 (vp_in_iff.mpr (by omega)) (fun v90 e91 => ?_)
            have := R5.a (k := 37) rfl (x1 : Int32).toNatClampNeg
            exact mv_iret d_TrustDeskModel_fundOf_132 rfl (by first | rfl | decide) ⟨_, I2, _, rfl, R5⟩
          · refine mv_tableIn (tgt := 133) (off := 100) d_TrustDeskModel_fundOf_33 (by omega) (by omega) (by rw [b43]; rfl) (by decide) ?_
            refine mv_aload_n d_TrustDeskModel_fundOf_133 rfl rfl ?_
            refine mv_iload_n d_TrustDeskModel_fundOf_134 rfl rfl ?_
            obtain ⟨_, b98, -⟩ := I2.1 _ _ h_o0
            refine mv_callV (kc' := 0) (ks' := 0) (As := [.int x1]) (st9 := [.int x1, .ref o0]) d_TrustDeskModel_fundOf_135 lV_TrustDeskModel_498 b98 rfl (tc_TrustDeskModel_trustees_x (d := d) (x9 := x9) (o0 := o0) (x1 := x1) h_o0 (by omega) R5 I2.start) rfl (Nat.le_of_ble_eq_true rfl) (Nat.le_of_ble_eq_true rfl) (Nat.le_of_ble_eq_true rfl) (hst := rfl) (fun b92r M93 n94 b92 => ?_)
            obtain ⟨T95, J96, v99, rfl, R100⟩ := b92
            have I97 := I2.call J96 (tm_sub (by decide)) (Or.inl rfl)
            have t101 := J96.up h_o0
            have q102 := J96.keep h_o0 (by decide) q3
            have q103 := J96.keep h_o0 (by decide) q17
            exact mv_iret d_TrustDeskModel_fundOf_138 rfl (by first | rfl | decide) ⟨_, I97, _, rfl, R100⟩
          · refine mv_tableIn (tgt := 139) (off := 106) d_TrustDeskModel_fundOf_33 (by omega) (by omega) (by rw [b43]; rfl) (by decide) ?_
            refine mv_aload_n d_TrustDeskModel_fundOf_139 rfl rfl ?_
            obtain ⟨a105, q104, t_a105⟩ := tm_atR I2 h_o0 (k := 38) rfl
            refine tr_getK q104 d_TrustDeskModel_fundOf_140 f_TrustDeskModel_82_13 ?_
            refine mv_iload_n d_TrustDeskModel_fundOf_143 rfl rfl ?_
            refine tr_ialdR (o := o0) (k := 38) I2 q104 t_a105 (by decide) d_TrustDeskModel_fundOf_144 (vp_in_iff.mpr (by omega)) (fun v106 e107 => ?_)
            exact mv_iret d_TrustDeskModel_fundOf_145 rfl (by first | rfl | decide) ⟨_, I2, _, rfl, R5⟩
abbrev kY_TrustDeskModel_coin : mj_Y := (⟨"TrustDeskModel", "coin", "(I)J"⟩, prog_14_method_103_code, 2, (Option.some Jvm.ClassFile.FieldType.long))
theorem d_TrustDeskModel_coin_0 : decode kY_TrustDeskModel_coin.2.1 0 = .ok (.aload_n 0, 1) := by decide +kernel
theorem d_TrustDeskModel_coin_1 : decode kY_TrustDeskModel_coin.2.1 1 = .ok (.iconst 0, 1) := by decide +kernel
theorem d_TrustDeskModel_coin_2 : decode kY_TrustDeskModel_coin.2.1 2 = .ok (.putfield 1, 3) := by decide +kernel
theorem d_TrustDeskModel_coin_5 : decode kY_TrustDeskModel_coin.2.1 5 = .ok (.aload_n 0, 1) := by decide +kernel
theorem d_TrustDeskModel_coin_6 : decode kY_TrustDeskModel_coin.2.1 6 = .ok (.iload_n 1, 1) := by decide +kernel
theorem d_TrustDeskModel_coin_7 : decode kY_TrustDeskModel_coin.2.1 7 = .ok (.invokevirtual 418, 3) := by decide +kernel
theorem d_TrustDeskModel_coin_10 : decode kY_TrustDeskModel_coin.2.1 10 = .ok (.ifCond .eq 12, 3) := by decide +kernel
theorem d_TrustDeskModel_coin_22 : decode kY_TrustDeskModel_coin.2.1 22 = .ok (.ldc2_w 590, 3) := by decide +kernel
theorem k_TrustDeskModel_590 : Cond.constantLong "TrustDeskModel" 590 (-1) ∈ mj_T := (mj_in1 (List.mem_of_getElem? (i := 2036) (by decide +kernel)) rfl)
theorem d_TrustDeskModel_coin_25 : decode kY_TrustDeskModel_coin.2.1 25 = .ok (.lreturn, 1) := by decide +kernel
theorem d_TrustDeskModel_coin_13 : decode kY_TrustDeskModel_coin.2.1 13 = .ok (.aload_n 0, 1) := by decide +kernel
theorem d_TrustDeskModel_coin_14 : decode kY_TrustDeskModel_coin.2.1 14 = .ok (.getfield 72, 3) := by decide +kernel
theorem d_TrustDeskModel_coin_17 : decode kY_TrustDeskModel_coin.2.1 17 = .ok (.iload_n 1, 1) := by decide +kernel
theorem d_TrustDeskModel_coin_18 : decode kY_TrustDeskModel_coin.2.1 18 = .ok (.laload, 1) := by decide +kernel
theorem d_TrustDeskModel_coin_19 : decode kY_TrustDeskModel_coin.2.1 19 = .ok (.goto 6, 3) := by decide +kernel
def w_TrustDeskModel_coin_x : List Nat := [1300]
set_option maxHeartbeats 100000000 in theorem tc_TrustDeskModel_coin_x {g : mj_G} {l : Launch} {d : Nat} {T0 : tm_H} {M0 : mj_M} {n0 x9 : Nat} {o0 : Nat} {x1 : Int32} (h_o0 : T0 o0 = some (0, 13, 0)) (yR : rI M0 o0) (I0 : tm_I tm_FT (tm_in w_TrustDeskModel_coin_x) x9 T0 M0 n0 T0 M0 n0) : mj_Met g l kY_TrustDeskModel_coin (d + 1) [.ref o0, .int x1] M0 n0 0 0 (tm_Q tm_FT (tm_in w_TrustDeskModel_coin_x) x9 T0 M0 n0 (fun r _ M => ∃ v : Int64, r = some (.long v) ∧ rI M o0)) := by
  refine mj_enter (by decide) (Nat.le_of_ble_eq_true rfl) ?_
  refine mv_aload_n d_TrustDeskModel_coin_0 rfl rfl ?_
  refine mv_iconst (v := 0) d_TrustDeskModel_coin_1 (by decide) ?_
  refine tr_putR (k := 0) I0 yR h_o0 rfl ⟨_, rfl⟩ (fun _ h => by cases h) rfl (fun lo hi h => by cases h) (Or.inl (by decide)) d_TrustDeskModel_coin_2 p_TrustDeskModel_1_13 rfl rfl (fun M1 I2 q3 K4 R5 A6 V7 => ?_)
  refine mv_aload_n d_TrustDeskModel_coin_5 rfl rfl ?_
  refine mv_iload_n d_TrustDeskModel_coin_6 rfl rfl ?_
  obtain ⟨_, b8, -⟩ := I2.1 _ _ h_o0
  refine mv_callV (kc1 := 0) (ks1 := 0) (kc' := 0) (ks' := 0) (As := [.int x1]) (st9 := [.int x1, .ref o0]) d_TrustDeskModel_coin_7 lV_TrustDeskModel_418 b8 rfl (mj_enter (by decide) (Nat.le_of_ble_eq_true rfl) ?_) rfl (Nat.le_of_ble_eq_true rfl) (Nat.le_of_ble_eq_true rfl) (Nat.le_of_ble_eq_true rfl) (hst := rfl) (fun _ _ _ h => h)
  refine mv_iload_n d_TrustDeskModel_isFund_0 rfl rfl ?_
  have := mz_hi x1
  refine mv_if_ltZ (tgt := 16) (a := x1.toInt) d_TrustDeskModel_isFund_1 (by decide) rfl (fun b9 => ?_) (fun b9 => ?_)
  · refine mv_iconst (v := 0) d_TrustDeskModel_isFund_16 (by decide) ?_
    refine mv_iret d_TrustDeskModel_isFund_17 rfl (by decide) ?_
    refine mv_if_eq_t (tgt := 22) d_TrustDeskModel_coin_10 (by decide) (by decide) ?_
    refine mv_ldc2 d_TrustDeskModel_coin_22 k_TrustDeskModel_590 ?_
    exact mv_lret d_TrustDeskModel_coin_25 rfl ⟨_, I2, _, rfl, R5⟩
  · refine mv_iload_n d_TrustDeskModel_isFund_4 rfl rfl ?_
    refine mv_aload_n d_TrustDeskModel_isFund_5 rfl rfl ?_
    obtain ⟨v11, q10⟩ := tm_atI I2 h_o0 (k := 32) rfl
    refine tr_getK q10 d_TrustDeskModel_isFund_6 f_TrustDeskModel_415_13 ?_
    have := R5.f (k := 32) q10 rfl
    have := mz_hi x1
    have := mz_hi v11
    refine mv_icmp_geZ (tgt := 16) (a := x1.toInt) (b := v11.toInt) d_TrustDeskModel_isFund_9 (by decide) rfl rfl (fun b12 => ?_) (fun b12 => ?_)
    · refine mv_iconst (v := 0) d_TrustDeskModel_isFund_16 (by decide) ?_
      refine mv_iret d_TrustDeskModel_isFund_17 rfl (by decide) ?_
      refine mv_if_eq_t (tgt := 22) d_TrustDeskModel_coin_10 (by decide) (by decide) ?_
      refine mv_ldc2 d_TrustDeskModel_coin_22 k_TrustDeskModel_590 ?_
      exact mv_lret d_TrustDeskModel_coin_25 rfl ⟨_, I2, _, rfl, R5⟩
    · refine mv_iconst (v := 1) d_TrustDeskModel_isFund_12 (by decide) ?_
      refine mv_goto (tgt := 17) d_TrustDeskModel_isFund_13 (by decide) ?_
      refine mv_iret d_TrustDeskModel_isFund_17 rfl (by decide) ?_
      refine mv_if_eq_f (tgt := 22) d_TrustDeskModel_coin_10 (by decide) (by decide) ?_
      refine mv_aload_n d_TrustDeskModel_coin_13 rfl rfl ?_
      obtain ⟨a14, q13, t_a14⟩ := tm_atR I2 h_o0 (k := 35) rfl
      refine tr_getK q13 d_TrustDeskModel_coin_14 f_TrustDeskModel_72_13 ?_
      refine mv_iload_n d_TrustDeskModel_coin_17 rfl rfl ?_
      refine tr_laldR (o := o0) (k := 35) I2 q13 t_a14 (by decide) d_TrustDeskModel_coin_18 (vp_in_iff.mpr (by omega)) (fun v15 e16 => ?_)
      have := R5.a (k := 35) rfl (x1 : Int32).toNatClampNeg
      refine mv_goto (tgt := 25) d_TrustDeskModel_coin_19 (by decide) ?_
      exact mv_lret d_TrustDeskModel_coin_25 rfl ⟨_, I2, _, rfl, R5⟩
abbrev kY_TrustDeskModel_income : mj_Y := (⟨"TrustDeskModel", "income", "(III)I"⟩, prog_14_method_104_code, 4, (Option.some Jvm.ClassFile.FieldType.int))
theorem d_TrustDeskModel_income_0 : decode kY_TrustDeskModel_income.2.1 0 = .ok (.aload_n 0, 1) := by decide +kernel
theorem d_TrustDeskModel_income_1 : decode kY_TrustDeskModel_income.2.1 1 = .ok (.iconst 0, 1) := by decide +kernel
theorem d_TrustDeskModel_income_2 : decode kY_TrustDeskModel_income.2.1 2 = .ok (.putfield 1, 3) := by decide +kernel
theorem d_TrustDeskModel_income_5 : decode kY_TrustDeskModel_income.2.1 5 = .ok (.aload_n 0, 1) := by decide +kernel
theorem d_TrustDeskModel_income_6 : decode kY_TrustDeskModel_income.2.1 6 = .ok (.iload_n 1, 1) := by decide +kernel
theorem d_TrustDeskModel_income_7 : decode kY_TrustDeskModel_income.2.1 7 = .ok (.invokevirtual 418, 3) := by decide +kernel
theorem d_TrustDeskModel_income_10 : decode kY_TrustDeskModel_income.2.1 10 = .ok (.ifCond .eq 28, 3) := by decide +kernel
theorem d_TrustDeskModel_income_38 : decode kY_TrustDeskModel_income.2.1 38 = .ok (.iconst (-1), 1) := by decide +kernel
theorem d_TrustDeskModel_income_39 : decode kY_TrustDeskModel_income.2.1 39 = .ok (.ireturn, 1) := by decide +kernel
theorem d_TrustDeskModel_income_13 : decode kY_TrustDeskModel_income.2.1 13 = .ok (.iload_n 2, 1) := by decide +kernel
theorem d_TrustDeskModel_income_14 : decode kY_TrustDeskModel_income.2.1 14 = .ok (.invokestatic 173, 3) := by decide +kernel
theorem d_TrustDeskModel_income_17 : decode kY_TrustDeskModel_income.2.1 17 = .ok (.ifCond .eq 21, 3) := by decide +kernel
theorem d_TrustDeskModel_income_20 : decode kY_TrustDeskModel_income.2.1 20 = .ok (.aload_n 0, 1) := by decide +kernel
theorem d_TrustDeskModel_income_21 : decode kY_TrustDeskModel_income.2.1 21 = .ok (.iload_n 3, 1) := by decide +kernel
theorem d_TrustDeskModel_income_22 : decode kY_TrustDeskModel_income.2.1 22 = .ok (.invokevirtual 182, 3) := by decide +kernel
theorem d_TrustDeskModel_income_25 : decode kY_TrustDeskModel_income.2.1 25 = .ok (.ifCond .eq 13, 3) := by decide +kernel
theorem d_TrustDeskModel_income_28 : decode kY_TrustDeskModel_income.2.1 28 = .ok (.aload_n 0, 1) := by decide +kernel
theorem d_TrustDeskModel_income_29 : decode kY_TrustDeskModel_income.2.1 29 = .ok (.iload_n 1, 1) := by decide +kernel
theorem d_TrustDeskModel_income_30 : decode kY_TrustDeskModel_income.2.1 30 = .ok (.iload_n 2, 1) := by decide +kernel
theorem d_TrustDeskModel_income_31 : decode kY_TrustDeskModel_income.2.1 31 = .ok (.iload_n 3, 1) := by decide +kernel
theorem d_TrustDeskModel_income_32 : decode kY_TrustDeskModel_income.2.1 32 = .ok (.invokevirtual 438, 3) := by decide +kernel
theorem d_TrustDeskModel_income_35 : decode kY_TrustDeskModel_income.2.1 35 = .ok (.goto 4, 3) := by decide +kernel
def w_TrustDeskModel_income_x : List Nat := [1300]
set_option maxHeartbeats 100000000 in theorem tc_TrustDeskModel_income_x {g : mj_G} {l : Launch} {d : Nat} {T0 : tm_H} {M0 : mj_M} {n0 x9 : Nat} {o0 : Nat} {x1 : Int32} {x2 : Int32} {x3 : Int32} (h_o0 : T0 o0 = some (0, 13, 0)) (yR : rI M0 o0) (I0 : tm_I tm_FT (tm_in w_TrustDeskModel_income_x) x9 T0 M0 n0 T0 M0 n0) : mj_Met g l kY_TrustDeskModel_income (d + 2) [.ref o0, .int x1, .int x2, .int x3] M0 n0 0 0 (tm_Q tm_FT (tm_in w_TrustDeskModel_income_x) x9 T0 M0 n0 (fun r _ M => ∃ v : Int32, r = some (.int v) ∧ rI M o0)) := by
  refine mj_enter (by decide) (Nat.le_of_ble_eq_true rfl) ?_
  refine mv_aload_n d_TrustDeskModel_income_0 rfl rfl ?_
  refine mv_iconst (v := 0) d_TrustDeskModel_income_1 (by decide) ?_
  refine tr_putR (k := 0) I0 yR h_o0 rfl ⟨_, rfl⟩ (fun _ h => by cases h) rfl (fun lo hi h => by cases h) (Or.inl (by decide)) d_TrustDeskModel_income_2 p_TrustDeskModel_1_13 rfl rfl (fun M1 I2 q3 K4 R5 A6 V7 => ?_)
  refine mv_aload_n d_TrustDeskModel_income_5 rfl rfl ?_
  refine mv_iload_n d_TrustDeskModel_income_6 rfl rfl ?_
  obtain ⟨_, b8, -⟩ := I2.1 _ _ h_o0
  refine mv_callV (kc1 := 0) (ks1 := 0) (kc' := 0) (ks' := 0) (As := [.int x1]) (st9 := [.int x1, .ref o0]) d_TrustDeskModel_income_7 lV_TrustDeskModel_418 b8 rfl (mj_enter (by decide) (Nat.le_of_ble_eq_true rfl) ?_) rfl (Nat.le_of_ble_eq_true rfl) (Nat.le_of_ble_eq_true rfl) (Nat.le_of_ble_eq_true rfl) (hst := rfl) (fun _ _ _ h => h)
  refine mv_iload_n d_TrustDeskModel_isFund_0 rfl rfl ?_
  have := mz_hi x1
  refine mv_if_ltZ (tgt := 16) (a := x1.toInt) d_TrustDeskModel_isFund_1 (by decide) rfl (fun b9 => ?_) (fun b9 => ?_)
  · refine mv_iconst (v := 0) d_TrustDeskModel_isFund_16 (by decide) ?_
    refine mv_iret d_TrustDeskModel_isFund_17 rfl (by decide) ?_
    refine mv_if_eq_t (tgt := 38) d_TrustDeskModel_income_10 (by decide) (by decide) ?_
    refine mv_iconst (v := (-1)) d_TrustDeskModel_income_38 (by decide) ?_
    exact mv_iret d_TrustDeskModel_income_39 rfl (by first | rfl | decide) ⟨_, I2, _, rfl, R5⟩
  · refine mv_iload_n d_TrustDeskModel_isFund_4 rfl rfl ?_
    refine mv_aload_n d_TrustDeskModel_isFund_5 rfl rfl ?_
    obtain ⟨v11, q10⟩ := tm_atI I2 h_o0 (k := 32) rfl
    refine tr_getK q10 d_TrustDeskModel_isFund_6 f_TrustDeskModel_415_13 ?_
    have := R5.f (k := 32) q10 rfl
    have := mz_hi x1
    have := mz_hi v11
    refine mv_icmp_geZ (tgt := 16) (a := x1.toInt) (b := v11.toInt) d_TrustDeskModel_isFund_9 (by decide) rfl rfl (fun b12 => ?_) (fun b12 => ?_)
    · refine mv_iconst (v := 0) d_TrustDeskModel_isFund_16 (by decide) ?_
      refine mv_iret d_TrustDeskModel_isFund_17 rfl (by decide) ?_
      refine mv_if_eq_t (tgt := 38) d_TrustDeskModel_income_10 (by decide) (by decide) ?_
      refine mv_iconst (v := (-1)) d_TrustDeskModel_income_38 (by decide) ?_
      exact mv_iret d_TrustDeskModel_income_39 rfl (by first | rfl | decide) ⟨_, I2, _, rfl, R5⟩
    · refine mv_iconst (v := 1) d_TrustDeskModel_isFund_12 (by decide) ?_
      refine mv_goto (tgt := 17) d_TrustDeskModel_isFund_13 (by decide) ?_
      refine mv_iret d_TrustDeskModel_isFund_17 rfl (by decide) ?_
      refine mv_if_eq_f (tgt := 38) d_TrustDeskModel_income_10 (by decide) (by decide) ?_
      refine mv_iload_n d_TrustDeskModel_income_13 rfl rfl ?_
      refine mv_callS (kc1 := 0) (ks1 := 0) (kc' := 0) (ks' := 0) (As := [.int x2]) (st9 := [.int x2]) d_TrustDeskModel_income_14 lS_TrustDeskModel_173 (mj_enter (by decide) (Nat.le_of_ble_eq_true rfl) ?_) rfl (Nat.le_of_ble_eq_true rfl) (Nat.le_of_ble_eq_true rfl) (Nat.le_of_ble_eq_true rfl) (hst := rfl) (fun _ _ _ h => h)
      refine mv_iload_n d_TrustDeskModel_isYear_0 rfl rfl ?_
      have := mz_hi x2
      refine mv_if_ltZ (tgt := 14) (a := x2.toInt) d_TrustDeskModel_isYear_1 (by decide) rfl (fun b13 => ?_) (fun b13 => ?_)
      · refine mv_iconst (v := 0) d_TrustDeskModel_isYear_14 (by decide) ?_
        refine mv_iret d_TrustDeskModel_isYear_15 rfl (by decide) ?_
        refine mv_if_eq_t (tgt := 38) d_TrustDeskModel_income_17 (by decide) (by decide) ?_
        refine mv_iconst (v := (-1)) d_TrustDeskModel_income_38 (by decide) ?_
        exact mv_iret d_TrustDeskModel_income_39 rfl (by first | rfl | decide) ⟨_, I2, _, rfl, R5⟩
      · refine mv_iload_n d_TrustDeskModel_isYear_4 rfl rfl ?_
        refine mv_bipush (v := 100) d_TrustDeskModel_isYear_5 (by decide) ?_
        have := mz_hi x2
        refine mv_icmp_gtZ (tgt := 14) (a := x2.toInt) (b := 100) d_TrustDeskModel_isYear_7 (by decide) rfl (by decide) (fun b14 => ?_) (fun b14 => ?_)
        · refine mv_iconst (v := 0) d_TrustDeskModel_isYear_14 (by decide) ?_
          refine mv_iret d_TrustDeskModel_isYear_15 rfl (by decide) ?_
          refine mv_if_eq_t (tgt := 38) d_TrustDeskModel_income_17 (by decide) (by decide) ?_
          refine mv_iconst (v := (-1)) d_TrustDeskModel_income_38 (by decide) ?_
          exact mv_iret d_TrustDeskModel_income_39 rfl (by first | rfl | decide) ⟨_, I2, _, rfl, R5⟩
        · refine mv_iconst (v := 1) d_TrustDeskModel_isYear_10 (by decide) ?_
          refine mv_goto (tgt := 15) d_TrustDeskModel_isYear_11 (by decide) ?_
          refine mv_iret d_TrustDeskModel_isYear_15 rfl (by decide) ?_
          refine mv_if_eq_f (tgt := 38) d_TrustDeskModel_income_17 (by decide) (by decide) ?_
          refine mv_aload_n d_TrustDeskModel_income_20 rfl rfl ?_
          refine mv_iload_n d_TrustDeskModel_income_21 rfl rfl ?_
          obtain ⟨_, b15, -⟩ := I2.1 _ _ h_o0
          refine mv_callV (kc1 := 0) (ks1 := 0) (kc' := 0) (ks' := 0) (As := [.int x3]) (st9 := [.int x3, .ref o0]) d_TrustDeskModel_income_22 lV_TrustDeskModel_182 b15 rfl (mj_enter (by decide) (Nat.le_of_ble_eq_true rfl) ?_) rfl (Nat.le_of_ble_eq_true rfl) (Nat.le_of_ble_eq_true rfl) (Nat.le_of_ble_eq_true rfl) (hst := rfl) (fun _ _ _ h => h)
          refine mv_iload_n d_TrustDeskModel_isKnown_0 rfl rfl ?_
          have := mz_hi x3
          refine mv_if_ltZ (tgt := 16) (a := x3.toInt) d_TrustDeskModel_isKnown_1 (by decide) rfl (fun b16 => ?_) (fun b16 => ?_)
          · refine mv_iconst (v := 0) d_TrustDeskModel_isKnown_16 (by decide) ?_
            refine mv_iret d_TrustDeskModel_isKnown_17 rfl (by decide) ?_
            refine mv_if_eq_t (tgt := 38) d_TrustDeskModel_income_25 (by decide) (by decide) ?_
            refine mv_iconst (v := (-1)) d_TrustDeskModel_income_38 (by decide) ?_
            exact mv_iret d_TrustDeskModel_income_39 rfl (by first | rfl | decide) ⟨_, I2, _, rfl, R5⟩
          · refine mv_iload_n d_TrustDeskModel_isKnown_4 rfl rfl ?_
            refine mv_aload_n d_TrustDeskModel_isKnown_5 rfl rfl ?_
            obtain ⟨v18, q17⟩ := tm_atI I2 h_o0 (k := 1) rfl
            refine tr_getK q17 d_TrustDeskModel_isKnown_6 f_TrustDeskModel_164_13 ?_
            have := R5.f (k := 1) q17 rfl
            have := mz_hi x3
            have := mz_hi v18
            refine mv_icmp_gtZ (tgt := 16) (a := x3.toInt) (b := v18.toInt) d_TrustDeskModel_isKnown_9 (by decide) rfl rfl (fun b19 => ?_) (fun b19 => ?_)
            · refine mv_iconst (v := 0) d_TrustDeskModel_isKnown_16 (by decide) ?_
              refine mv_iret d_TrustDeskModel_isKnown_17 rfl (by decide) ?_
              refine mv_if_eq_t (tgt := 38) d_TrustDeskModel_income_25 (by decide) (by decide) ?_
              refine mv_iconst (v := (-1)) d_TrustDeskModel_income_38 (by decide) ?_
              exact mv_iret d_TrustDeskModel_income_39 rfl (by first | rfl | decide) ⟨_, I2, _, rfl, R5⟩
            · refine mv_iconst (v := 1) d_TrustDeskModel_isKnown_12 (by decide) ?_
              refine mv_goto (tgt := 17) d_TrustDeskModel_isKnown_13 (by decide) ?_
              refine mv_iret d_TrustDeskModel_isKnown_17 rfl (by decide) ?_
              refine mv_if_eq_f (tgt := 38) d_TrustDeskModel_income_25 (by decide) (by decide) ?_
              refine mv_aload_n d_TrustDeskModel_income_28 rfl rfl ?_
              refine mv_iload_n d_TrustDeskModel_income_29 rfl rfl ?_
              refine mv_iload_n d_TrustDeskModel_income_30 rfl rfl ?_
              refine mv_iload_n d_TrustDeskModel_income_31 rfl rfl ?_
              obtain ⟨_, b26, -⟩ := I2.1 _ _ h_o0
              refine mv_callV (kc' := 0) (ks' := 0) (As := [.int x1, .int x2, .int x3]) (st9 := [.int x3, .int x2, .int x1, .ref o0]) d_TrustDeskModel_income_32 lV_TrustDeskModel_438 b26 rfl (tc_TrustDeskModel_incomeOf_x (d := d) (x9 := x9) (o0 := o0) (x1 := x1) (x2 := x2) (x3 := x3) h_o0 (by omega) R5 I2.start) rfl (Nat.le_of_ble_eq_true rfl) (Nat.le_of_ble_eq_true rfl) (Nat.le_of_ble_eq_true rfl) (hst := rfl) (fun b20r M21 n22 b20 => ?_)
              obtain ⟨T23, J24, v27, rfl, R28, f29⟩ := b20
              have I25 := I2.call J24 (tm_sub (by decide)) (Or.inl rfl)
              have t30 := J24.up h_o0
              have q31 := J24.keep h_o0 (by decide) q3
              have q32 := J24.keep h_o0 (by decide) q10
              have q33 := J24.keep h_o0 (by decide) q17
              refine mv_goto (tgt := 39) d_TrustDeskModel_income_35 (by decide) ?_
              exact mv_iret d_TrustDeskModel_income_39 rfl (by first | rfl | decide) ⟨_, I25, _, rfl, R28⟩
abbrev kY_TrustDeskModel_paid : mj_Y := (⟨"TrustDeskModel", "paid", "(I)J"⟩, prog_14_method_106_code, 2, (Option.some Jvm.ClassFile.FieldType.long))
theorem d_TrustDeskModel_paid_0 : decode kY_TrustDeskModel_paid.2.1 0 = .ok (.aload_n 0, 1) := by decide +kernel
theorem d_TrustDeskModel_paid_1 : decode kY_TrustDeskModel_paid.2.1 1 = .ok (.iconst 0, 1) := by decide +kernel
theorem d_TrustDeskModel_paid_2 : decode kY_TrustDeskModel_paid.2.1 2 = .ok (.putfield 1, 3) := by decide +kernel
theorem d_TrustDeskModel_paid_5 : decode kY_TrustDeskModel_paid.2.1 5 = .ok (.aload_n 0, 1) := by decide +kernel
theorem d_TrustDeskModel_paid_6 : decode kY_TrustDeskModel_paid.2.1 6 = .ok (.iload_n 1, 1) := by decide +kernel
theorem d_TrustDeskModel_paid_7 : decode kY_TrustDeskModel_paid.2.1 7 = .ok (.invokevirtual 418, 3) := by decide +kernel
theorem d_TrustDeskModel_paid_10 : decode kY_TrustDeskModel_paid.2.1 10 = .ok (.ifCond .eq 12, 3) := by decide +kernel
theorem d_TrustDeskModel_paid_22 : decode kY_TrustDeskModel_paid.2.1 22 = .ok (.ldc2_w 590, 3) := by decide +kernel
theorem d_TrustDeskModel_paid_25 : decode kY_TrustDeskModel_paid.2.1 25 = .ok (.lreturn, 1) := by decide +kernel
theorem d_TrustDeskModel_paid_13 : decode kY_TrustDeskModel_paid.2.1 13 = .ok (.aload_n 0, 1) := by decide +kernel
theorem d_TrustDeskModel_paid_14 : decode kY_TrustDeskModel_paid.2.1 14 = .ok (.getfield 95, 3) := by decide +kernel
theorem d_TrustDeskModel_paid_17 : decode kY_TrustDeskModel_paid.2.1 17 = .ok (.iload_n 1, 1) := by decide +kernel
theorem d_TrustDeskModel_paid_18 : decode kY_TrustDeskModel_paid.2.1 18 = .ok (.laload, 1) := by decide +kernel
theorem d_TrustDeskModel_paid_19 : decode kY_TrustDeskModel_paid.2.1 19 = .ok (.goto 6, 3) := by decide +kernel
def w_TrustDeskModel_paid_x : List Nat := [1300]
set_option maxHeartbeats 100000000 in theorem tc_TrustDeskModel_paid_x {g : mj_G} {l : Launch} {d : Nat} {T0 : tm_H} {M0 : mj_M} {n0 x9 : Nat} {o0 : Nat} {x1 : Int32} (h_o0 : T0 o0 = some (0, 13, 0)) (yR : rI M0 o0) (I0 : tm_I tm_FT (tm_in w_TrustDeskModel_paid_x) x9 T0 M0 n0 T0 M0 n0) : mj_Met g l kY_TrustDeskModel_paid (d + 1) [.ref o0, .int x1] M0 n0 0 0 (tm_Q tm_FT (tm_in w_TrustDeskModel_paid_x) x9 T0 M0 n0 (fun r _ M => ∃ v : Int64, r = some (.long v) ∧ rI M o0)) := by
  refine mj_enter (by decide) (Nat.le_of_ble_eq_true rfl) ?_
  refine mv_aload_n d_TrustDeskModel_paid_0 rfl rfl ?_
  refine mv_iconst (v := 0) d_TrustDeskModel_paid_1 (by decide) ?_
  refine tr_putR (k := 0) I0 yR h_o0 rfl ⟨_, rfl⟩ (fun _ h => by cases h) rfl (fun lo hi h => by cases h) (Or.inl (by decide)) d_TrustDeskModel_paid_2 p_TrustDeskModel_1_13 rfl rfl (fun M1 I2 q3 K4 R5 A6 V7 => ?_)
  refine mv_aload_n d_TrustDeskModel_paid_5 rfl rfl ?_
  refine mv_iload_n d_TrustDeskModel_paid_6 rfl rfl ?_
  obtain ⟨_, b8, -⟩ := I2.1 _ _ h_o0
  refine mv_callV (kc1 := 0) (ks1 := 0) (kc' := 0) (ks' := 0) (As := [.int x1]) (st9 := [.int x1, .ref o0]) d_TrustDeskModel_paid_7 lV_TrustDeskModel_418 b8 rfl (mj_enter (by decide) (Nat.le_of_ble_eq_true rfl) ?_) rfl (Nat.le_of_ble_eq_true rfl) (Nat.le_of_ble_eq_true rfl) (Nat.le_of_ble_eq_true rfl) (hst := rfl) (fun _ _ _ h => h)
  refine mv_iload_n d_TrustDeskModel_isFund_0 rfl rfl ?_
  have := mz_hi x1
  refine mv_if_ltZ (tgt := 16) (a := x1.toInt) d_TrustDeskModel_isFund_1 (by decide) rfl (fun b9 => ?_) (fun b9 => ?_)
  · refine mv_iconst (v := 0) d_TrustDeskModel_isFund_16 (by decide) ?_
    refine mv_iret d_TrustDeskModel_isFund_17 rfl (by decide) ?_
    refine mv_if_eq_t (tgt := 22) d_TrustDeskModel_paid_10 (by decide) (by decide) ?_
    refine mv_ldc2 d_TrustDeskModel_paid_22 k_TrustDeskModel_590 ?_
    exact mv_lret d_TrustDeskModel_paid_25 rfl ⟨_, I2, _, rfl, R5⟩
  · refine mv_iload_n d_TrustDeskModel_isFund_4 rfl rfl ?_
    refine mv_aload_n d_TrustDeskModel_isFund_5 rfl rfl ?_
    obtain ⟨v11, q10⟩ := tm_atI I2 h_o0 (k := 32) rfl
    refine tr_getK q10 d_TrustDeskModel_isFund_6 f_TrustDeskModel_415_13 ?_
    have := R5.f (k := 32) q10 rfl
    have := mz_hi x1
    have := mz_hi v11
    refine mv_icmp_geZ (tgt := 16) (a := x1.toInt) (b := v11.toInt) d_TrustDeskModel_isFund_9 (by decide) rfl rfl (fun b12 => ?_) (fun b12 => ?_)
    · refine mv_iconst (v := 0) d_TrustDeskModel_isFund_16 (by decide) ?_
      refine mv_iret d_TrustDeskModel_isFund_17 rfl (by decide) ?_
      refine mv_if_eq_t (tgt := 22) d_TrustDeskModel_paid_10 (by decide) (by decide) ?_
      refine mv_ldc2 d_TrustDeskModel_paid_22 k_TrustDeskModel_590 ?_
      exact mv_lret d_TrustDeskModel_paid_25 rfl ⟨_, I2, _, rfl, R5⟩
    · refine mv_iconst (v := 1) d_TrustDeskModel_isFund_12 (by decide) ?_
      refine mv_goto (tgt := 17) d_TrustDeskModel_isFund_13 (by decide) ?_
      refine mv_iret d_TrustDeskModel_isFund_17 rfl (by decide) ?_
      refine mv_if_eq_f (tgt := 22) d_TrustDeskModel_paid_10 (by decide) (by decide) ?_
      refine mv_aload_n d_TrustDeskModel_paid_13 rfl rfl ?_
      obtain ⟨a14, q13, t_a14⟩ := tm_atR I2 h_o0 (k := 42) rfl
      refine tr_getK q13 d_TrustDeskModel_paid_14 f_TrustDeskModel_95_13 ?_
      refine mv_iload_n d_TrustDeskModel_paid_17 rfl rfl ?_
      refine tr_laldR (o := o0) (k := 42) I2 q13 t_a14 (by decide) d_TrustDeskModel_paid_18 (vp_in_iff.mpr (by omega)) (fun v15 e16 => ?_)
      refine mv_goto (tgt := 25) d_TrustDeskModel_paid_19 (by decide) ?_
      exact mv_lret d_TrustDeskModel_paid_25 rfl ⟨_, I2, _, rfl, R5⟩
abbrev kY_TrustDeskModel_entry : mj_Y := (⟨"TrustDeskModel", "entry", "(II)I"⟩, prog_14_method_108_code, 3, (Option.some Jvm.ClassFile.FieldType.int))
theorem d_TrustDeskModel_entry_0 : decode kY_TrustDeskModel_entry.2.1 0 = .ok (.aload_n 0, 1) := by decide +kernel
theorem d_TrustDeskModel_entry_1 : decode kY_TrustDeskModel_entry.2.1 1 = .ok (.iconst 0, 1) := by decide +kernel
theorem d_TrustDeskModel_entry_2 : decode kY_TrustDeskModel_entry.2.1 2 = .ok (.putfield 1, 3) := by decide +kernel
theorem d_TrustDeskModel_entry_5 : decode kY_TrustDeskModel_entry.2.1 5 = .ok (.iload_n 1, 1) := by decide +kernel
theorem d_TrustDeskModel_entry_6 : decode kY_TrustDeskModel_entry.2.1 6 = .ok (.ifCond .lt 36, 3) := by decide +kernel
theorem d_TrustDeskModel_entry_42 : decode kY_TrustDeskModel_entry.2.1 42 = .ok (.iconst (-1), 1) := by decide +kernel
theorem d_TrustDeskModel_entry_43 : decode kY_TrustDeskModel_entry.2.1 43 = .ok (.ireturn, 1) := by decide +kernel
theorem d_TrustDeskModel_entry_9 : decode kY_TrustDeskModel_entry.2.1 9 = .ok (.iload_n 1, 1) := by decide +kernel
theorem d_TrustDeskModel_entry_10 : decode kY_TrustDeskModel_entry.2.1 10 = .ok (.aload_n 0, 1) := by decide +kernel
theorem d_TrustDeskModel_entry_11 : decode kY_TrustDeskModel_entry.2.1 11 = .ok (.getfield 474, 3) := by decide +kernel
theorem d_TrustDeskModel_entry_14 : decode kY_TrustDeskModel_entry.2.1 14 = .ok (.if_icmp .ge 28, 3) := by decide +kernel
theorem d_TrustDeskModel_entry_17 : decode kY_TrustDeskModel_entry.2.1 17 = .ok (.iload_n 2, 1) := by decide +kernel
theorem d_TrustDeskModel_entry_18 : decode kY_TrustDeskModel_entry.2.1 18 = .ok (.i2l, 1) := by decide +kernel
theorem d_TrustDeskModel_entry_19 : decode kY_TrustDeskModel_entry.2.1 19 = .ok (.lconst 0, 1) := by decide +kernel
theorem d_TrustDeskModel_entry_20 : decode kY_TrustDeskModel_entry.2.1 20 = .ok (.ldc2_w 504, 3) := by decide +kernel
theorem k_TrustDeskModel_504 : Cond.constantLong "TrustDeskModel" 504 3 ∈ mj_T := (mj_in1 (List.mem_of_getElem? (i := 1920) (by decide +kernel)) rfl)
theorem d_TrustDeskModel_entry_23 : decode kY_TrustDeskModel_entry.2.1 23 = .ok (.invokestatic 169, 3) := by decide +kernel
theorem d_TrustDeskModel_entry_26 : decode kY_TrustDeskModel_entry.2.1 26 = .ok (.ifCond .eq 16, 3) := by decide +kernel
theorem d_TrustDeskModel_entry_29 : decode kY_TrustDeskModel_entry.2.1 29 = .ok (.aload_n 0, 1) := by decide +kernel
theorem d_TrustDeskModel_entry_30 : decode kY_TrustDeskModel_entry.2.1 30 = .ok (.getfield 119, 3) := by decide +kernel
theorem d_TrustDeskModel_entry_33 : decode kY_TrustDeskModel_entry.2.1 33 = .ok (.iconst 4, 1) := by decide +kernel
theorem d_TrustDeskModel_entry_34 : decode kY_TrustDeskModel_entry.2.1 34 = .ok (.iload_n 1, 1) := by decide +kernel
theorem d_TrustDeskModel_entry_35 : decode kY_TrustDeskModel_entry.2.1 35 = .ok (.imul, 1) := by decide +kernel
theorem d_TrustDeskModel_entry_36 : decode kY_TrustDeskModel_entry.2.1 36 = .ok (.iload_n 2, 1) := by decide +kernel
theorem d_TrustDeskModel_entry_37 : decode kY_TrustDeskModel_entry.2.1 37 = .ok (.iadd, 1) := by decide +kernel
theorem d_TrustDeskModel_entry_38 : decode kY_TrustDeskModel_entry.2.1 38 = .ok (.iaload, 1) := by decide +kernel
theorem d_TrustDeskModel_entry_39 : decode kY_TrustDeskModel_entry.2.1 39 = .ok (.goto 4, 3) := by decide +kernel
def w_TrustDeskModel_entry_x : List Nat := [1300]
set_option maxHeartbeats 100000000 in theorem tc_TrustDeskModel_entry_x {g : mj_G} {l : Launch} {d : Nat} {T0 : tm_H} {M0 : mj_M} {n0 x9 : Nat} {o0 : Nat} {x1 : Int32} {x2 : Int32} (h_o0 : T0 o0 = some (0, 13, 0)) (yR : rI M0 o0) (I0 : tm_I tm_FT (tm_in w_TrustDeskModel_entry_x) x9 T0 M0 n0 T0 M0 n0) : mj_Met g l kY_TrustDeskModel_entry (d + 1) [.ref o0, .int x1, .int x2] M0 n0 0 0 (tm_Q tm_FT (tm_in w_TrustDeskModel_entry_x) x9 T0 M0 n0 (fun r _ M => ∃ v : Int32, r = some (.int v) ∧ rI M o0)) := by
  refine mj_enter (by decide) (Nat.le_of_ble_eq_true rfl) ?_
  refine mv_aload_n d_TrustDeskModel_entry_0 rfl rfl ?_
  refine mv_iconst (v := 0) d_TrustDeskModel_entry_1 (by decide) ?_
  refine tr_putR (k := 0) I0 yR h_o0 rfl ⟨_, rfl⟩ (fun _ h => by cases h) rfl (fun lo hi h => by cases h) (Or.inl (by decide)) d_TrustDeskModel_entry_2 p_TrustDeskModel_1_13 rfl rfl (fun M1 I2 q3 K4 R5 A6 V7 => ?_)
  refine mv_iload_n d_TrustDeskModel_entry_5 rfl rfl ?_
  have := mz_hi x1
  refine mv_if_ltZ (tgt := 42) (a := x1.toInt) d_TrustDeskModel_entry_6 (by decide) rfl (fun b8 => ?_) (fun b8 => ?_)
  · refine mv_iconst (v := (-1)) d_TrustDeskModel_entry_42 (by decide) ?_
    exact mv_iret d_TrustDeskModel_entry_43 rfl (by first | rfl | decide) ⟨_, I2, _, rfl, R5⟩
  · refine mv_iload_n d_TrustDeskModel_entry_9 rfl rfl ?_
    refine mv_aload_n d_TrustDeskModel_entry_10 rfl rfl ?_
    obtain ⟨v10, q9⟩ := tm_atI I2 h_o0 (k := 51) rfl
    refine tr_getK q9 d_TrustDeskModel_entry_11 f_TrustDeskModel_474_13 ?_
    have := R5.f (k := 51) q9 rfl
    have := mz_hi x1
    have := mz_hi v10
    refine mv_icmp_geZ (tgt := 42) (a := x1.toInt) (b := v10.toInt) d_TrustDeskModel_entry_14 (by decide) rfl rfl (fun b11 => ?_) (fun b11 => ?_)
    · refine mv_iconst (v := (-1)) d_TrustDeskModel_entry_42 (by decide) ?_
      exact mv_iret d_TrustDeskModel_entry_43 rfl (by first | rfl | decide) ⟨_, I2, _, rfl, R5⟩
    · refine mv_iload_n d_TrustDeskModel_entry_17 rfl rfl ?_
      refine mv_i2l (v := x2.toInt64) d_TrustDeskModel_entry_18 rfl ?_
      refine mv_lconst (v := 0) d_TrustDeskModel_entry_19 (by decide) ?_
      refine mv_ldc2 d_TrustDeskModel_entry_20 k_TrustDeskModel_504 ?_
      refine mv_callS (kc1 := 0) (ks1 := 0) (kc' := 0) (ks' := 0) (As := [.long x2.toInt64, .long 0, .long 3]) (st9 := [.long 3, .long 0, .long x2.toInt64]) d_TrustDeskModel_entry_23 lS_TrustDeskModel_169 (mj_enter (by decide) (Nat.le_of_ble_eq_true rfl) ?_) rfl (Nat.le_of_ble_eq_true rfl) (Nat.le_of_ble_eq_true rfl) (Nat.le_of_ble_eq_true rfl) (hst := rfl) (fun _ _ _ h => h)
      refine mv_lload_n d_TrustDeskModel_within_0 rfl rfl ?_
      refine mv_lload_n d_TrustDeskModel_within_1 rfl rfl ?_
      refine mv_lltZ (tgt := 17) (a := x2.toInt) (b := 0) d_TrustDeskModel_within_2 d_TrustDeskModel_within_3 (by decide) (mz_wide _) (by decide) (fun b12 => ?_) (fun b12 => ?_)
      · refine mv_iconst (v := 0) d_TrustDeskModel_within_17 (by decide) ?_
        refine mv_iret d_TrustDeskModel_within_18 rfl (by decide) ?_
        refine mv_if_eq_t (tgt := 42) d_TrustDeskModel_entry_26 (by decide) (by decide) ?_
        refine mv_iconst (v := (-1)) d_TrustDeskModel_entry_42 (by decide) ?_
        exact mv_iret d_TrustDeskModel_entry_43 rfl (by first | rfl | decide) ⟨_, I2, _, rfl, R5⟩
      · refine mv_lload_n d_TrustDeskModel_within_6 rfl rfl ?_
        refine mv_lload d_TrustDeskModel_within_7 rfl ?_
        refine mv_lgtZ (tgt := 17) (a := x2.toInt) (b := 3) d_TrustDeskModel_within_9 d_TrustDeskModel_within_10 (by decide) (mz_wide _) (by decide) (fun b13 => ?_) (fun b13 => ?_)
        · refine mv_iconst (v := 0) d_TrustDeskModel_within_17 (by decide) ?_
          refine mv_iret d_TrustDeskModel_within_18 rfl (by decide) ?_
          refine mv_if_eq_t (tgt := 42) d_TrustDeskModel_entry_26 (by decide) (by decide) ?_
          refine mv_iconst (v := (-1)) d_TrustDeskModel_entry_42 (by decide) ?_
          exact mv_iret d_TrustDeskModel_entry_43 rfl (by first | rfl | decide) ⟨_, I2, _, rfl, R5⟩
        · refine mv_iconst (v := 1) d_TrustDeskModel_within_13 (by decide) ?_
          refine mv_goto (tgt := 18) d_TrustDeskModel_within_14 (by decide) ?_
          refine mv_iret d_TrustDeskModel_within_18 rfl (by decide) ?_
          refine mv_if_eq_f (tgt := 42) d_TrustDeskModel_entry_26 (by decide) (by decide) ?_
          refine mv_aload_n d_TrustDeskModel_entry_29 rfl rfl ?_
          obtain ⟨a15, q14, t_a15⟩ := tm_atR I2 h_o0 (k := 52) rfl
          refine tr_getK q14 d_TrustDeskModel_entry_30 f_TrustDeskModel_119_13 ?_
          refine mv_iconst (v := 4) d_TrustDeskModel_entry_33 (by decide) ?_
          refine mv_iload_n d_TrustDeskModel_entry_34 rfl rfl ?_
          refine mv_imul d_TrustDeskModel_entry_35 ?_
          refine mv_iload_n d_TrustDeskModel_entry_36 rfl rfl ?_
          refine mv_iadd d_TrustDeskModel_entry_37 ?_
          have b16 : (4 * x1 : Int32).toInt = (4 * x1.toInt) := mz_mul2 (by decide) rfl (by omega) (by omega)
          have b17 : ((4 * x1) + x2 : Int32).toInt = ((4 * x1.toInt) + x2.toInt) := mz_add2 b16 rfl (by omega) (by omega)
          refine tr_ialdR (o := o0) (k := 52) I2 q14 t_a15 (by decide) d_TrustDeskModel_entry_38 (vp_in_iff.mpr (by omega)) (fun v18 e19 => ?_)
          refine mv_goto (tgt := 43) d_TrustDeskModel_entry_39 (by decide) ?_
          exact mv_iret d_TrustDeskModel_entry_43 rfl (by first | rfl | decide) ⟨_, I2, _, rfl, R5⟩
abbrev kY_TrustDeskModel_count : mj_Y := (⟨"TrustDeskModel", "count", "(I)I"⟩, prog_14_method_111_code, 2, (Option.some Jvm.ClassFile.FieldType.int))
theorem d_TrustDeskModel_count_0 : decode kY_TrustDeskModel_count.2.1 0 = .ok (.aload_n 0, 1) := by decide +kernel
theorem d_TrustDeskModel_count_1 : decode kY_TrustDeskModel_count.2.1 1 = .ok (.iconst 0, 1) := by decide +kernel
theorem d_TrustDeskModel_count_2 : decode kY_TrustDeskModel_count.2.1 2 = .ok (.putfield 1, 3) := by decide +kernel
theorem d_TrustDeskModel_count_5 : decode kY_TrustDeskModel_count.2.1 5 = .ok (.iload_n 1, 1) := by decide +kernel
theorem d_TrustDeskModel_count_6 : decode kY_TrustDeskModel_count.2.1 6 = .ok (.tableswitch 122 0 11 #[62, 67, 72, 77, 82, 87, 92, 97, 102, 107, 112, 117], 62) := by decide +kernel
theorem d_TrustDeskModel_count_128 : decode kY_TrustDeskModel_count.2.1 128 = .ok (.iconst (-1), 1) := by decide +kernel
theorem d_TrustDeskModel_count_129 : decode kY_TrustDeskModel_count.2.1 129 = .ok (.ireturn, 1) := by decide +kernel
theorem d_TrustDeskModel_count_68 : decode kY_TrustDeskModel_count.2.1 68 = .ok (.aload_n 0, 1) := by decide +kernel
theorem d_TrustDeskModel_count_69 : decode kY_TrustDeskModel_count.2.1 69 = .ok (.getfield 164, 3) := by decide +kernel
theorem d_TrustDeskModel_count_72 : decode kY_TrustDeskModel_count.2.1 72 = .ok (.ireturn, 1) := by decide +kernel
theorem d_TrustDeskModel_count_73 : decode kY_TrustDeskModel_count.2.1 73 = .ok (.aload_n 0, 1) := by decide +kernel
theorem d_TrustDeskModel_count_74 : decode kY_TrustDeskModel_count.2.1 74 = .ok (.invokevirtual 518, 3) := by decide +kernel
theorem d_TrustDeskModel_count_77 : decode kY_TrustDeskModel_count.2.1 77 = .ok (.ireturn, 1) := by decide +kernel
theorem d_TrustDeskModel_count_78 : decode kY_TrustDeskModel_count.2.1 78 = .ok (.aload_n 0, 1) := by decide +kernel
theorem d_TrustDeskModel_count_79 : decode kY_TrustDeskModel_count.2.1 79 = .ok (.getfield 179, 3) := by decide +kernel
theorem d_TrustDeskModel_count_82 : decode kY_TrustDeskModel_count.2.1 82 = .ok (.ireturn, 1) := by decide +kernel
theorem d_TrustDeskModel_count_83 : decode kY_TrustDeskModel_count.2.1 83 = .ok (.aload_n 0, 1) := by decide +kernel
theorem d_TrustDeskModel_count_84 : decode kY_TrustDeskModel_count.2.1 84 = .ok (.getfield 378, 3) := by decide +kernel
theorem d_TrustDeskModel_count_87 : decode kY_TrustDeskModel_count.2.1 87 = .ok (.ireturn, 1) := by decide +kernel
theorem d_TrustDeskModel_count_88 : decode kY_TrustDeskModel_count.2.1 88 = .ok (.aload_n 0, 1) := by decide +kernel
theorem d_TrustDeskModel_count_89 : decode kY_TrustDeskModel_count.2.1 89 = .ok (.getfield 415, 3) := by decide +kernel
theorem d_TrustDeskModel_count_92 : decode kY_TrustDeskModel_count.2.1 92 = .ok (.ireturn, 1) := by decide +kernel
theorem d_TrustDeskModel_count_93 : decode kY_TrustDeskModel_count.2.1 93 = .ok (.aload_n 0, 1) := by decide +kernel
theorem d_TrustDeskModel_count_94 : decode kY_TrustDeskModel_count.2.1 94 = .ok (.getfield 435, 3) := by decide +kernel
theorem d_TrustDeskModel_count_97 : decode kY_TrustDeskModel_count.2.1 97 = .ok (.ireturn, 1) := by decide +kernel
theorem d_TrustDeskModel_count_98 : decode kY_TrustDeskModel_count.2.1 98 = .ok (.aload_n 0, 1) := by decide +kernel
theorem d_TrustDeskModel_count_99 : decode kY_TrustDeskModel_count.2.1 99 = .ok (.getfield 501, 3) := by decide +kernel
theorem d_TrustDeskModel_count_102 : decode kY_TrustDeskModel_count.2.1 102 = .ok (.ireturn, 1) := by decide +kernel
theorem d_TrustDeskModel_count_103 : decode kY_TrustDeskModel_count.2.1 103 = .ok (.aload_n 0, 1) := by decide +kernel
theorem d_TrustDeskModel_count_104 : decode kY_TrustDeskModel_count.2.1 104 = .ok (.getfield 474, 3) := by decide +kernel
theorem d_TrustDeskModel_count_107 : decode kY_TrustDeskModel_count.2.1 107 = .ok (.ireturn, 1) := by decide +kernel
theorem d_TrustDeskModel_count_108 : decode kY_TrustDeskModel_count.2.1 108 = .ok (.aload_n 0, 1) := by decide +kernel
theorem d_TrustDeskModel_count_109 : decode kY_TrustDeskModel_count.2.1 109 = .ok (.getfield 189, 3) := by decide +kernel
theorem d_TrustDeskModel_count_112 : decode kY_TrustDeskModel_count.2.1 112 = .ok (.ireturn, 1) := by decide +kernel
theorem d_TrustDeskModel_count_113 : decode kY_TrustDeskModel_count.2.1 113 = .ok (.aload_n 0, 1) := by decide +kernel
theorem d_TrustDeskModel_count_114 : decode kY_TrustDeskModel_count.2.1 114 = .ok (.getfield 592, 3) := by decide +kernel
theorem f_TrustDeskModel_592_13 : mj_fl "TrustDeskModel" 592 13 70 := ⟨kR_TrustDeskModel, kF_TrustDeskModel, 72, "TrustDeskModel", rfl, kg_13, by decide, (mj_in1 (List.mem_of_getElem? (i := 1456) (by decide +kernel)) rfl), Or.inl rfl⟩
theorem d_TrustDeskModel_count_117 : decode kY_TrustDeskModel_count.2.1 117 = .ok (.ireturn, 1) := by decide +kernel
theorem d_TrustDeskModel_count_118 : decode kY_TrustDeskModel_count.2.1 118 = .ok (.aload_n 0, 1) := by decide +kernel
theorem d_TrustDeskModel_count_119 : decode kY_TrustDeskModel_count.2.1 119 = .ok (.invokevirtual 597, 3) := by decide +kernel
abbrev kY_TrustDeskModel_made : mj_Y := (⟨"TrustDeskModel", "made", "()I"⟩, prog_14_method_109_code, 3, (Option.some Jvm.ClassFile.FieldType.int))
theorem d_TrustDeskModel_made_0 : decode kY_TrustDeskModel_made.2.1 0 = .ok (.iconst 0, 1) := by decide +kernel
theorem d_TrustDeskModel_made_1 : decode kY_TrustDeskModel_made.2.1 1 = .ok (.istore_n 1, 1) := by decide +kernel
theorem d_TrustDeskModel_made_2 : decode kY_TrustDeskModel_made.2.1 2 = .ok (.iconst 0, 1) := by decide +kernel
theorem d_TrustDeskModel_made_3 : decode kY_TrustDeskModel_made.2.1 3 = .ok (.istore_n 2, 1) := by decide +kernel
theorem d_TrustDeskModel_made_4 : decode kY_TrustDeskModel_made.2.1 4 = .ok (.iload_n 2, 1) := by decide +kernel
theorem d_TrustDeskModel_made_5 : decode kY_TrustDeskModel_made.2.1 5 = .ok (.aload_n 0, 1) := by decide +kernel
theorem d_TrustDeskModel_made_6 : decode kY_TrustDeskModel_made.2.1 6 = .ok (.getfield 501, 3) := by decide +kernel
theorem d_TrustDeskModel_made_9 : decode kY_TrustDeskModel_made.2.1 9 = .ok (.if_icmp .ge 22, 3) := by decide +kernel
theorem d_TrustDeskModel_made_31 : decode kY_TrustDeskModel_made.2.1 31 = .ok (.iload_n 1, 1) := by decide +kernel
theorem d_TrustDeskModel_made_32 : decode kY_TrustDeskModel_made.2.1 32 = .ok (.ireturn, 1) := by decide +kernel
theorem d_TrustDeskModel_made_12 : decode kY_TrustDeskModel_made.2.1 12 = .ok (.aload_n 0, 1) := by decide +kernel
theorem d_TrustDeskModel_made_13 : decode kY_TrustDeskModel_made.2.1 13 = .ok (.getfield 137, 3) := by decide +kernel
theorem d_TrustDeskModel_made_16 : decode kY_TrustDeskModel_made.2.1 16 = .ok (.iload_n 2, 1) := by decide +kernel
theorem d_TrustDeskModel_made_17 : decode kY_TrustDeskModel_made.2.1 17 = .ok (.iaload, 1) := by decide +kernel
theorem d_TrustDeskModel_made_18 : decode kY_TrustDeskModel_made.2.1 18 = .ok (.iconst 1, 1) := by decide +kernel
theorem d_TrustDeskModel_made_19 : decode kY_TrustDeskModel_made.2.1 19 = .ok (.if_icmp .ne 6, 3) := by decide +kernel
theorem d_TrustDeskModel_made_25 : decode kY_TrustDeskModel_made.2.1 25 = .ok (.iinc 2 1, 3) := by decide +kernel
theorem d_TrustDeskModel_made_28 : decode kY_TrustDeskModel_made.2.1 28 = .ok (.goto (-24), 3) := by decide +kernel
theorem d_TrustDeskModel_made_22 : decode kY_TrustDeskModel_made.2.1 22 = .ok (.iinc 1 1, 3) := by decide +kernel
def w_TrustDeskModel_made_x : List Nat := []
set_option maxHeartbeats 100000000 in theorem tc_TrustDeskModel_made_x {g : mj_G} {l : Launch} {d : Nat} {T0 : tm_H} {M0 : mj_M} {n0 x9 : Nat} {o0 : Nat} (h_o0 : T0 o0 = some (0, 13, 0)) (yR : rI M0 o0) (I0 : tm_I tm_FT (tm_in w_TrustDeskModel_made_x) x9 T0 M0 n0 T0 M0 n0) : mj_Met g l kY_TrustDeskModel_made d [.ref o0] M0 n0 0 0 (tm_Q tm_FT (tm_in w_TrustDeskModel_made_x) x9 T0 M0 n0 (fun r _ M => ∃ v : Int32, r = some (.int v) ∧ rI M o0)) := by
  refine mj_enter (by decide) (Nat.le_of_ble_eq_true rfl) ?_
  refine mv_iconst (v := 0) d_TrustDeskModel_made_0 (by decide) ?_
  refine mv_istore_n (lv' := [(1, .int 0), (0, .ref o0)]) d_TrustDeskModel_made_1 rfl (by decide) rfl ?_
  refine mv_iconst (v := 0) d_TrustDeskModel_made_2 (by decide) ?_
  refine mv_istore_n (lv' := [(2, .int 0), (1, .int 0), (0, .ref o0)]) d_TrustDeskModel_made_3 rfl (by decide) rfl ?_
  have L4_1 : ∀ (k : Nat) (i2_1 : Int32) (i1_1 : Int32) (T_1 : tm_H) (M_1 : mj_M) (n_1 : Nat), tm_I tm_FT (tm_in w_TrustDeskModel_made_x) x9 T0 M0 n0 T_1 M_1 n_1 → T_1 o0 = some (0, 13, 0) → 0 ≤ i2_1.toInt → (rI M_1 o0) → 2147483647 - i2_1.toInt < (k : Int) → mj_V g l kY_TrustDeskModel_made d 4 [(2, .int i2_1), (1, .int i1_1), (0, .ref o0)] [] M_1 n_1 0 0 (tm_Q tm_FT (tm_in w_TrustDeskModel_made_x) x9 T0 M0 n0 (fun r _ M => ∃ v : Int32, r = some (.int v) ∧ rI M o0)) := by
    intro k1
    induction k1 with
    | zero =>
      intro i2_1 i1_1 T_1 M_1 n_1 I_1 h_q0_1 iv0_1 kKR_1 hk1
      have := mz_hi i2_1
      have := kKR_1.1 15 _ _ rfl
      have := kKR_1.1 16 _ _ rfl
      have := kKR_1.1 19 _ _ rfl
      omega
    | succ k1 ih1 =>
      intro i2_1 i1_1 T_1 M_1 n_1 I_1 h_q0_1 iv0_1 kKR_1 hk1
      refine mv_iload_n d_TrustDeskModel_made_4 rfl rfl ?_
      refine mv_aload_n d_TrustDeskModel_made_5 rfl rfl ?_
      obtain ⟨v3, q2⟩ := tm_atI I_1 h_q0_1 (k := 53) rfl
      refine tr_getK q2 d_TrustDeskModel_made_6 f_TrustDeskModel_501_13 ?_
      have := kKR_1.f (k := 53) q2 rfl
      have := mz_hi i2_1
      have := mz_hi v3
      refine mv_icmp_geZ (tgt := 31) (a := i2_1.toInt) (b := v3.toInt) d_TrustDeskModel_made_9 (by decide) rfl rfl (fun b4 => ?_) (fun b4 => ?_)
      · refine mv_iload_n d_TrustDeskModel_made_31 rfl rfl ?_
        exact mv_iret d_TrustDeskModel_made_32 rfl (by first | rfl | decide) ⟨_, I_1, _, rfl, kKR_1⟩
      · refine mv_aload_n d_TrustDeskModel_made_12 rfl rfl ?_
        obtain ⟨a6, q5, t_a6⟩ := tm_atR I_1 h_q0_1 (k := 59) rfl
        refine tr_getK q5 d_TrustDeskModel_made_13 f_TrustDeskModel_137_13 ?_
        refine mv_iload_n d_TrustDeskModel_made_16 rfl rfl ?_
        refine tr_ialdR (o := o0) (k := 59) I_1 q5 t_a6 (by decide) d_TrustDeskModel_made_17 (vp_in_iff.mpr (by omega)) (fun v7 e8 => ?_)
        refine mv_iconst (v := 1) d_TrustDeskModel_made_18 (by decide) ?_
        have := mz_hi v7
        refine mv_icmp_neZ (tgt := 25) (a := v7.toInt) (b := 1) d_TrustDeskModel_made_19 (by decide) rfl (by decide) (fun b9 => ?_) (fun b9 => ?_)
        · refine mv_iinc (v := (i2_1 + 1)) (lv' := [(2, .int (i2_1 + 1)), (1, .int i1_1), (0, .ref o0)]) d_TrustDeskModel_made_25 rfl rfl (by decide) rfl ?_
          refine mv_goto (tgt := 4) d_TrustDeskModel_made_28 (by decide) ?_
          have b10 : (i2_1 + 1 : Int32).toInt = (i2_1.toInt + 1) := mz_add2 rfl (by decide) (by omega) (by omega)
          have b11 : (i2_1 + 1).toInt = i2_1.toInt + 1 := mz_addn 1 1 (by decide) (by have := mz_lo i2_1; omega) (by have := mz_hi i2_1; omega)
          exact (ih1 (i2_1 + 1) i1_1 T_1 M_1 n_1 I_1 h_q0_1 (by first | omega | decide | exact fun h9 => absurd (by decide) h9) kKR_1 (by omega))
        · refine mv_iinc (v := (i1_1 + 1)) (lv' := [(1, .int (i1_1 + 1)), (2, .int i2_1), (0, .ref o0)]) d_TrustDeskModel_made_22 rfl rfl (by decide) rfl ?_
          refine mv_iinc (v := (i2_1 + 1)) (lv' := [(2, .int (i2_1 + 1)), (1, .int (i1_1 + 1)), (0, .ref o0)]) d_TrustDeskModel_made_25 rfl rfl (by decide) rfl ?_
          refine mv_goto (tgt := 4) d_TrustDeskModel_made_28 (by decide) ?_
          have b12 : (i2_1 + 1 : Int32).toInt = (i2_1.toInt + 1) := mz_add2 rfl (by decide) (by omega) (by omega)
          have b13 : (i2_1 + 1).toInt = i2_1.toInt + 1 := mz_addn 1 1 (by decide) (by have := mz_lo i2_1; omega) (by have := mz_hi i2_1; omega)
          exact (ih1 (i2_1 + 1) (i1_1 + 1) T_1 M_1 n_1 I_1 h_q0_1 (by first | omega | decide | exact fun h9 => absurd (by decide) h9) kKR_1 (by omega))
  have : (0 : Int32).toInt = 0 := by decide
  exact mv_less (Nat.zero_le _) (Nat.zero_le _) (L4_1 4294967296 0 0 T0 M0 n0 I0 h_o0 (by first | omega | decide | exact fun h9 => absurd (by decide) h9) yR (by show (2147483647 - (0 : Int) : Int) < _; decide))
theorem lV_TrustDeskModel_597 : mj_lV "TrustDeskModel" 597 kY_TrustDeskModel_made 0 := ⟨⟨(mj_in1 (List.mem_of_getElem? (i := 2086) (by decide +kernel)) rfl), (mj_in1 (List.mem_of_getElem? (i := 10) (by decide +kernel)) rfl), (mj_in1 (List.mem_of_getElem? (i := 2089) (by decide +kernel)) rfl), by decide, rfl, by decide⟩, (mj_in1 (List.mem_of_getElem? (i := 2088) (by decide +kernel)) rfl), (mj_in (List.mem_append_left _ (List.mem_of_getElem? (i := 143) (by decide +kernel))) rfl)⟩
theorem d_TrustDeskModel_count_122 : decode kY_TrustDeskModel_count.2.1 122 = .ok (.ireturn, 1) := by decide +kernel
theorem d_TrustDeskModel_count_123 : decode kY_TrustDeskModel_count.2.1 123 = .ok (.aload_n 0, 1) := by decide +kernel
theorem d_TrustDeskModel_count_124 : decode kY_TrustDeskModel_count.2.1 124 = .ok (.invokevirtual 600, 3) := by decide +kernel
abbrev kY_TrustDeskModel_free : mj_Y := (⟨"TrustDeskModel", "free", "()I"⟩, prog_14_method_110_code, 3, (Option.some Jvm.ClassFile.FieldType.int))
theorem d_TrustDeskModel_free_0 : decode kY_TrustDeskModel_free.2.1 0 = .ok (.iconst 0, 1) := by decide +kernel
theorem d_TrustDeskModel_free_1 : decode kY_TrustDeskModel_free.2.1 1 = .ok (.istore_n 1, 1) := by decide +kernel
theorem d_TrustDeskModel_free_2 : decode kY_TrustDeskModel_free.2.1 2 = .ok (.iconst 0, 1) := by decide +kernel
theorem d_TrustDeskModel_free_3 : decode kY_TrustDeskModel_free.2.1 3 = .ok (.istore_n 2, 1) := by decide +kernel
theorem d_TrustDeskModel_free_4 : decode kY_TrustDeskModel_free.2.1 4 = .ok (.iload_n 2, 1) := by decide +kernel
theorem d_TrustDeskModel_free_5 : decode kY_TrustDeskModel_free.2.1 5 = .ok (.aload_n 0, 1) := by decide +kernel
theorem d_TrustDeskModel_free_6 : decode kY_TrustDeskModel_free.2.1 6 = .ok (.getfield 415, 3) := by decide +kernel
theorem d_TrustDeskModel_free_9 : decode kY_TrustDeskModel_free.2.1 9 = .ok (.if_icmp .ge 22, 3) := by decide +kernel
theorem d_TrustDeskModel_free_31 : decode kY_TrustDeskModel_free.2.1 31 = .ok (.iload_n 1, 1) := by decide +kernel
theorem d_TrustDeskModel_free_32 : decode kY_TrustDeskModel_free.2.1 32 = .ok (.ireturn, 1) := by decide +kernel
theorem d_TrustDeskModel_free_12 : decode kY_TrustDeskModel_free.2.1 12 = .ok (.aload_n 0, 1) := by decide +kernel
theorem d_TrustDeskModel_free_13 : decode kY_TrustDeskModel_free.2.1 13 = .ok (.getfield 79, 3) := by decide +kernel
theorem d_TrustDeskModel_free_16 : decode kY_TrustDeskModel_free.2.1 16 = .ok (.iload_n 2, 1) := by decide +kernel
theorem d_TrustDeskModel_free_17 : decode kY_TrustDeskModel_free.2.1 17 = .ok (.iaload, 1) := by decide +kernel
theorem d_TrustDeskModel_free_18 : decode kY_TrustDeskModel_free.2.1 18 = .ok (.iconst (-1), 1) := by decide +kernel
theorem d_TrustDeskModel_free_19 : decode kY_TrustDeskModel_free.2.1 19 = .ok (.if_icmp .ne 6, 3) := by decide +kernel
theorem d_TrustDeskModel_free_25 : decode kY_TrustDeskModel_free.2.1 25 = .ok (.iinc 2 1, 3) := by decide +kernel
theorem d_TrustDeskModel_free_28 : decode kY_TrustDeskModel_free.2.1 28 = .ok (.goto (-24), 3) := by decide +kernel
theorem d_TrustDeskModel_free_22 : decode kY_TrustDeskModel_free.2.1 22 = .ok (.iinc 1 1, 3) := by decide +kernel
def w_TrustDeskModel_free_x : List Nat := []
set_option maxHeartbeats 100000000 in theorem tc_TrustDeskModel_free_x {g : mj_G} {l : Launch} {d : Nat} {T0 : tm_H} {M0 : mj_M} {n0 x9 : Nat} {o0 : Nat} (h_o0 : T0 o0 = some (0, 13, 0)) (yR : rI M0 o0) (I0 : tm_I tm_FT (tm_in w_TrustDeskModel_free_x) x9 T0 M0 n0 T0 M0 n0) : mj_Met g l kY_TrustDeskModel_free d [.ref o0] M0 n0 0 0 (tm_Q tm_FT (tm_in w_TrustDeskModel_free_x) x9 T0 M0 n0 (fun r _ M => ∃ v : Int32, r = some (.int v) ∧ rI M o0)) := by
  refine mj_enter (by decide) (Nat.le_of_ble_eq_true rfl) ?_
  refine mv_iconst (v := 0) d_TrustDeskModel_free_0 (by decide) ?_
  refine mv_istore_n (lv' := [(1, .int 0), (0, .ref o0)]) d_TrustDeskModel_free_1 rfl (by decide) rfl ?_
  refine mv_iconst (v := 0) d_TrustDeskModel_free_2 (by decide) ?_
  refine mv_istore_n (lv' := [(2, .int 0), (1, .int 0), (0, .ref o0)]) d_TrustDeskModel_free_3 rfl (by decide) rfl ?_
  have L4_1 : ∀ (k : Nat) (i2_1 : Int32) (i1_1 : Int32) (T_1 : tm_H) (M_1 : mj_M) (n_1 : Nat), tm_I tm_FT (tm_in w_TrustDeskModel_free_x) x9 T0 M0 n0 T_1 M_1 n_1 → T_1 o0 = some (0, 13, 0) → 0 ≤ i2_1.toInt → (rI M_1 o0) → 2147483647 - i2_1.toInt < (k : Int) → mj_V g l kY_TrustDeskModel_free d 4 [(2, .int i2_1), (1, .int i1_1), (0, .ref o0)] [] M_1 n_1 0 0 (tm_Q tm_FT (tm_in w_TrustDeskModel_free_x) x9 T0 M0 n0 (fun r _ M => ∃ v : Int32, r = some (.int v) ∧ rI M o0)) := by
    intro k1
    induction k1 with
    | zero =>
      intro i2_1 i1_1 T_1 M_1 n_1 I_1 h_q0_1 iv0_1 kKR_1 hk1
      have := mz_hi i2_1
      have := kKR_1.1 15 _ _ rfl
      have := kKR_1.1 16 _ _ rfl
      have := kKR_1.1 19 _ _ rfl
      omega
    | succ k1 ih1 =>
      intro i2_1 i1_1 T_1 M_1 n_1 I_1 h_q0_1 iv0_1 kKR_1 hk1
      refine mv_iload_n d_TrustDeskModel_free_4 rfl rfl ?_
      refine mv_aload_n d_TrustDeskModel_free_5 rfl rfl ?_
      obtain ⟨v3, q2⟩ := tm_atI I_1 h_q0_1 (k := 32) rfl
      refine tr_getK q2 d_TrustDeskModel_free_6 f_TrustDeskModel_415_13 ?_
      have := kKR_1.f (k := 32) q2 rfl
      have := mz_hi i2_1
      have := mz_hi v3
      refine mv_icmp_geZ (tgt := 31) (a := i2_1.toInt) (b := v3.toInt) d_TrustDeskModel_free_9 (by decide) rfl rfl (fun b4 => ?_) (fun b4 => ?_)
      · refine mv_iload_n d_TrustDeskModel_free_31 rfl rfl ?_
        exact mv_iret d_TrustDeskModel_free_32 rfl (by first | rfl | decide) ⟨_, I_1, _, rfl, kKR_1⟩
      · refine mv_aload_n d_TrustDeskModel_free_12 rfl rfl ?_
        obtain ⟨a6, q5, t_a6⟩ := tm_atR I_1 h_q0_1 (k := 37) rfl
        refine tr_getK q5 d_TrustDeskModel_free_13 f_TrustDeskModel_79_13 ?_
        refine mv_iload_n d_TrustDeskModel_free_16 rfl rfl ?_
        refine tr_ialdR (o := o0) (k := 37) I_1 q5 t_a6 (by decide) d_TrustDeskModel_free_17 (vp_in_iff.mpr (by omega)) (fun v7 e8 => ?_)
        have := kKR_1.a (k := 37) rfl (i2_1 : Int32).toNatClampNeg
        refine mv_iconst (v := (-1)) d_TrustDeskModel_free_18 (by decide) ?_
        have := mz_hi v7
        refine mv_icmp_neZ (tgt := 25) (a := v7.toInt) (b := (-1)) d_TrustDeskModel_free_19 (by decide) rfl (by decide) (fun b9 => ?_) (fun b9 => ?_)
        · refine mv_iinc (v := (i2_1 + 1)) (lv' := [(2, .int (i2_1 + 1)), (1, .int i1_1), (0, .ref o0)]) d_TrustDeskModel_free_25 rfl rfl (by decide) rfl ?_
          refine mv_goto (tgt := 4) d_TrustDeskModel_free_28 (by decide) ?_
          have b10 : (i2_1 + 1 : Int32).toInt = (i2_1.toInt + 1) := mz_add2 rfl (by decide) (by omega) (by omega)
          have b11 : (i2_1 + 1).toInt = i2_1.toInt + 1 := mz_addn 1 1 (by decide) (by have := mz_lo i2_1; omega) (by have := mz_hi i2_1; omega)
          exact (ih1 (i2_1 + 1) i1_1 T_1 M_1 n_1 I_1 h_q0_1 (by first | omega | decide | exact fun h9 => absurd (by decide) h9) kKR_1 (by omega))
        · refine mv_iinc (v := (i1_1 + 1)) (lv' := [(1, .int (i1_1 + 1)), (2, .int i2_1), (0, .ref o0)]) d_TrustDeskModel_free_22 rfl rfl (by decide) rfl ?_
          refine mv_iinc (v := (i2_1 + 1)) (lv' := [(2, .int (i2_1 + 1)), (1, .int (i1_1 + 1)), (0, .ref o0)]) d_TrustDeskModel_free_25 rfl rfl (by decide) rfl ?_
          refine mv_goto (tgt := 4) d_TrustDeskModel_free_28 (by decide) ?_
          have b12 : (i2_1 + 1 : Int32).toInt = (i2_1.toInt + 1) := mz_add2 rfl (by decide) (by omega) (by omega)
          have b13 : (i2_1 + 1).toInt = i2_1.toInt + 1 := mz_addn 1 1 (by decide) (by have := mz_lo i2_1; omega) (by have := mz_hi i2_1; omega)
          exact (ih1 (i2_1 + 1) (i1_1 + 1) T_1 M_1 n_1 I_1 h_q0_1 (by first | omega | decide | exact fun h9 => absurd (by decide) h9) kKR_1 (by omega))
  have : (0 : Int32).toInt = 0 := by decide
  exact mv_less (Nat.zero_le _) (Nat.zero_le _) (L4_1 4294967296 0 0 T0 M0 n0 I0 h_o0 (by first | omega | decide | exact fun h9 => absurd (by decide) h9) yR (by show (2147483647 - (0 : Int) : Int) < _; decide))
theorem lV_TrustDeskModel_600 : mj_lV "TrustDeskModel" 600 kY_TrustDeskModel_free 0 := ⟨⟨(mj_in1 (List.mem_of_getElem? (i := 2090) (by decide +kernel)) rfl), (mj_in1 (List.mem_of_getElem? (i := 10) (by decide +kernel)) rfl), (mj_in1 (List.mem_of_getElem? (i := 2093) (by decide +kernel)) rfl), by decide, rfl, by decide⟩, (mj_in1 (List.mem_of_getElem? (i := 2092) (by decide +kernel)) rfl), (mj_in (List.mem_append_left _ (List.mem_of_getElem? (i := 144) (by decide +kernel))) rfl)⟩
theorem d_TrustDeskModel_count_127 : decode kY_TrustDeskModel_count.2.1 127 = .ok (.ireturn, 1) := by decide +kernel
def w_TrustDeskModel_count_x : List Nat := [1300]
set_option maxHeartbeats 100000000 in theorem tc_TrustDeskModel_count_x {g : mj_G} {l : Launch} {d : Nat} {T0 : tm_H} {M0 : mj_M} {n0 x9 : Nat} {o0 : Nat} {x1 : Int32} (h_o0 : T0 o0 = some (0, 13, 0)) (yR : rI M0 o0) (I0 : tm_I tm_FT (tm_in w_TrustDeskModel_count_x) x9 T0 M0 n0 T0 M0 n0) : mj_Met g l kY_TrustDeskModel_count (d + 1) [.ref o0, .int x1] M0 n0 0 0 (tm_Q tm_FT (tm_in w_TrustDeskModel_count_x) x9 T0 M0 n0 (fun r _ M => ∃ v : Int32, r = some (.int v) ∧ rI M o0)) := by
  refine mj_enter (by decide) (Nat.le_of_ble_eq_true rfl) ?_
  refine mv_aload_n d_TrustDeskModel_count_0 rfl rfl ?_
  refine mv_iconst (v := 0) d_TrustDeskModel_count_1 (by decide) ?_
  refine tr_putR (k := 0) I0 yR h_o0 rfl ⟨_, rfl⟩ (fun _ h => by cases h) rfl (fun lo hi h => by cases h) (Or.inl (by decide)) d_TrustDeskModel_count_2 p_TrustDeskModel_1_13 rfl rfl (fun M1 I2 q3 K4 R5 A6 V7 => ?_)
  refine mv_iload_n d_TrustDeskModel_count_5 rfl rfl ?_
  rcases (show (x1.toInt < 0 ∨ 11 < x1.toInt) ∨ x1.toInt = 0 ∨ x1.toInt = 1 ∨ x1.toInt = 2 ∨ x1.toInt = 3 ∨ x1.toInt = 4 ∨ x1.toInt = 5 ∨ x1.toInt = 6 ∨ x1.toInt = 7 ∨ x1.toInt = 8 ∨ x1.toInt = 9 ∨ x1.toInt = 10 ∨ x1.toInt = 11 by omega) with b8 | b8 | b8 | b8 | b8 | b8 | b8 | b8 | b8 | b8 | b8 | b8 | b8
  · refine mv_tableOut (tgt := 128) d_TrustDeskModel_count_6 b8 (by decide) ?_
    refine mv_iconst (v := (-1)) d_TrustDeskModel_count_128 (by decide) ?_
    exact mv_iret d_TrustDeskModel_count_129 rfl (by first | rfl | decide) ⟨_, I2, _, rfl, R5⟩
  · refine mv_tableIn (tgt := 68) (off := 62) d_TrustDeskModel_count_6 (by omega) (by omega) (by rw [b8]; rfl) (by decide) ?_
    refine mv_aload_n d_TrustDeskModel_count_68 rfl rfl ?_
    obtain ⟨v10, q9⟩ := tm_atI I2 h_o0 (k := 1) rfl
    refine tr_getK q9 d_TrustDeskModel_count_69 f_TrustDeskModel_164_13 ?_
    have := R5.f (k := 1) q9 rfl
    exact mv_iret d_TrustDeskModel_count_72 rfl (by first | rfl | decide) ⟨_, I2, _, rfl, R5⟩
  · refine mv_tableIn (tgt := 73) (off := 67) d_TrustDeskModel_count_6 (by omega) (by omega) (by rw [b8]; rfl) (by decide) ?_
    refine mv_aload_n d_TrustDeskModel_count_73 rfl rfl ?_
    obtain ⟨_, b11, -⟩ := I2.1 _ _ h_o0
    refine mv_callV (kc1 := 0) (ks1 := 0) (kc' := 0) (ks' := 0) (As := []) (st9 := [.ref o0]) d_TrustDeskModel_count_74 lV_TrustDeskModel_518 b11 rfl (mj_enter (by decide) (Nat.le_of_ble_eq_true rfl) ?_) rfl (Nat.le_of_ble_eq_true rfl) (Nat.le_of_ble_eq_true rfl) (Nat.le_of_ble_eq_true rfl) (hst := rfl) (fun _ _ _ h => h)
    refine mv_aload_n d_TrustDeskModel_year_0 rfl rfl ?_
    obtain ⟨v13, q12⟩ := tm_atI I2 h_o0 (k := 1) rfl
    refine tr_getK q12 d_TrustDeskModel_year_1 f_TrustDeskModel_164_13 ?_
    have := R5.f (k := 1) q12 rfl
    refine mv_sipush (v := 360) d_TrustDeskModel_year_4 (by decide) ?_
    have : (v13 / 360 : Int32).toInt = v13.toInt / 360 := mz_div (by decide) (by decide) (by omega)
    refine mv_idiv d_TrustDeskModel_year_7 (by decide) ?_
    refine mv_iret d_TrustDeskModel_year_8 rfl (by first | rfl | decide) ?_
    exact mv_iret d_TrustDeskModel_count_77 rfl (by first | rfl | decide) ⟨_, I2, _, rfl, R5⟩
  · refine mv_tableIn (tgt := 78) (off := 72) d_TrustDeskModel_count_6 (by omega) (by omega) (by rw [b8]; rfl) (by decide) ?_
    refine mv_aload_n d_TrustDeskModel_count_78 rfl rfl ?_
    obtain ⟨v15, q14⟩ := tm_atI I2 h_o0 (k := 2) rfl
    refine tr_getK q14 d_TrustDeskModel_count_79 f_TrustDeskModel_179_13 ?_
    have := R5.f (k := 2) q14 rfl
    exact mv_iret d_TrustDeskModel_count_82 rfl (by first | rfl | decide) ⟨_, I2, _, rfl, R5⟩
  · refine mv_tableIn (tgt := 83) (off := 77) d_TrustDeskModel_count_6 (by omega) (by omega) (by rw [b8]; rfl) (by decide) ?_
    refine mv_aload_n d_TrustDeskModel_count_83 rfl rfl ?_
    obtain ⟨v17, q16⟩ := tm_atI I2 h_o0 (k := 27) rfl
    refine tr_getK q16 d_TrustDeskModel_count_84 f_TrustDeskModel_378_13 ?_
    have := R5.f (k := 27) q16 rfl
    exact mv_iret d_TrustDeskModel_count_87 rfl (by first | rfl | decide) ⟨_, I2, _, rfl, R5⟩
  · refine mv_tableIn (tgt := 88) (off := 82) d_TrustDeskModel_count_6 (by omega) (by omega) (by rw [b8]; rfl) (by decide) ?_
    refine mv_aload_n d_TrustDeskModel_count_88 rfl rfl ?_
    obtain ⟨v19, q18⟩ := tm_atI I2 h_o0 (k := 32) rfl
    refine tr_getK q18 d_TrustDeskModel_count_89 f_TrustDeskModel_415_13 ?_
    have := R5.f (k := 32) q18 rfl
    exact mv_iret d_TrustDeskModel_count_92 rfl (by first | rfl | decide) ⟨_, I2, _, rfl, R5⟩
  · refine mv_tableIn (tgt := 93) (off := 87) d_TrustDeskModel_count_6 (by omega) (by omega) (by rw [b8]; rfl) (by decide) ?_
    refine mv_aload_n d_TrustDeskModel_count_93 rfl rfl ?_
    obtain ⟨v21, q20⟩ := tm_atI I2 h_o0 (k := 49) rfl
    refine tr_getK q20 d_TrustDeskModel_count_94 f_TrustDeskModel_435_13 ?_
    have := R5.f (k := 49) q20 rfl
    exact mv_iret d_TrustDeskModel_count_97 rfl (by first | rfl | decide) ⟨_, I2, _, rfl, R5⟩
  · refine mv_tableIn (tgt := 98) (off := 92) d_TrustDeskModel_count_6 (by omega) (by omega) (by rw [b8]; rfl) (by decide) ?_
    refine mv_aload_n d_TrustDeskModel_count_98 rfl rfl ?_
    obtain ⟨v23, q22⟩ := tm_atI I2 h_o0 (k := 53) rfl
    refine tr_getK q22 d_TrustDeskModel_count_99 f_TrustDeskModel_501_13 ?_
    have := R5.f (k := 53) q22 rfl
    exact mv_iret d_TrustDeskModel_count_102 rfl (by first | rfl | decide) ⟨_, I2, _, rfl, R5⟩
  · refine mv_tableIn (tgt := 103) (off := 97) d_TrustDeskModel_count_6 (by omega) (by omega) (by rw [b8]; rfl) (by decide) ?_
    refine mv_aload_n d_TrustDeskModel_count_103 rfl rfl ?_
    obtain ⟨v25, q24⟩ := tm_atI I2 h_o0 (k := 51) rfl
    refine tr_getK q24 d_TrustDeskModel_count_104 f_TrustDeskModel_474_13 ?_
    have := R5.f (k := 51) q24 rfl
    exact mv_iret d_TrustDeskModel_count_107 rfl (by first | rfl | decide) ⟨_, I2, _, rfl, R5⟩
  · refine mv_tableIn (tgt := 108) (off := 102) d_TrustDeskModel_count_6 (by omega) (by omega) (by rw [b8]; rfl) (by decide) ?_
    refine mv_aload_n d_TrustDeskModel_count_108 rfl rfl ?_
    obtain ⟨v27, q26⟩ := tm_atI I2 h_o0 (k := 14) rfl
    refine tr_getK q26 d_TrustDeskModel_count_109 f_TrustDeskModel_189_13 ?_
    have := R5.f (k := 14) q26 rfl
    exact mv_iret d_TrustDeskModel_count_112 rfl (by first | rfl | decide) ⟨_, I2, _, rfl, R5⟩
  · refine mv_tableIn (tgt := 113) (off := 107) d_TrustDeskModel_count_6 (by omega) (by omega) (by rw [b8]; rfl) (by decide) ?_
    refine mv_aload_n d_TrustDeskModel_count_113 rfl rfl ?_
    obtain ⟨v29, q28⟩ := tm_atI I2 h_o0 (k := 70) rfl
    refine tr_getK q28 d_TrustDeskModel_count_114 f_TrustDeskModel_592_13 ?_
    have := R5.f (k := 70) q28 rfl
    exact mv_iret d_TrustDeskModel_count_117 rfl (by first | rfl | decide) ⟨_, I2, _, rfl, R5⟩
  · refine mv_tableIn (tgt := 118) (off := 112) d_TrustDeskModel_count_6 (by omega) (by omega) (by rw [b8]; rfl) (by decide) ?_
    refine mv_aload_n d_TrustDeskModel_count_118 rfl rfl ?_
    obtain ⟨_, b36, -⟩ := I2.1 _ _ h_o0
    refine mv_callV (kc' := 0) (ks' := 0) (As := []) (st9 := [.ref o0]) d_TrustDeskModel_count_119 lV_TrustDeskModel_597 b36 rfl (tc_TrustDeskModel_made_x (d := d) (x9 := x9) (o0 := o0) h_o0 R5 I2.start) rfl (Nat.le_of_ble_eq_true rfl) (Nat.le_of_ble_eq_true rfl) (Nat.le_of_ble_eq_true rfl) (hst := rfl) (fun b30r M31 n32 b30 => ?_)
    obtain ⟨T33, J34, v37, rfl, R38⟩ := b30
    have I35 := I2.call J34 (tm_sub (by decide)) (Or.inl rfl)
    have t39 := J34.up h_o0
    have q40 := J34.keep h_o0 (by decide) q3
    exact mv_iret d_TrustDeskModel_count_122 rfl (by first | rfl | decide) ⟨_, I35, _, rfl, R38⟩
  · refine mv_tableIn (tgt := 123) (off := 117) d_TrustDeskModel_count_6 (by omega) (by omega) (by rw [b8]; rfl) (by decide) ?_
    refine mv_aload_n d_TrustDeskModel_count_123 rfl rfl ?_
    obtain ⟨_, b47, -⟩ := I2.1 _ _ h_o0
    refine mv_callV (kc' := 0) (ks' := 0) (As := []) (st9 := [.ref o0]) d_TrustDeskModel_count_124 lV_TrustDeskModel_600 b47 rfl (tc_TrustDeskModel_free_x (d := d) (x9 := x9) (o0 := o0) h_o0 R5 I2.start) rfl (Nat.le_of_ble_eq_true rfl) (Nat.le_of_ble_eq_true rfl) (Nat.le_of_ble_eq_true rfl) (hst := rfl) (fun b41r M42 n43 b41 => ?_)
    obtain ⟨T44, J45, v48, rfl, R49⟩ := b41
    have I46 := I2.call J45 (tm_sub (by decide)) (Or.inl rfl)
    have t50 := J45.up h_o0
    have q51 := J45.keep h_o0 (by decide) q3
    exact mv_iret d_TrustDeskModel_count_127 rfl (by first | rfl | decide) ⟨_, I46, _, rfl, R49⟩
abbrev kY_TrustDeskModel_part_1 : mj_Y := (⟨"TrustDeskModel", "part", "(II)I"⟩, prog_14_method_105_code, 3, (Option.some Jvm.ClassFile.FieldType.int))
theorem d_TrustDeskModel_part_1_0 : decode kY_TrustDeskModel_part_1.2.1 0 = .ok (.aload_n 0, 1) := by decide +kernel
theorem d_TrustDeskModel_part_1_1 : decode kY_TrustDeskModel_part_1.2.1 1 = .ok (.iconst 0, 1) := by decide +kernel
theorem d_TrustDeskModel_part_1_2 : decode kY_TrustDeskModel_part_1.2.1 2 = .ok (.putfield 1, 3) := by decide +kernel
theorem d_TrustDeskModel_part_1_5 : decode kY_TrustDeskModel_part_1.2.1 5 = .ok (.aload_n 0, 1) := by decide +kernel
theorem d_TrustDeskModel_part_1_6 : decode kY_TrustDeskModel_part_1.2.1 6 = .ok (.iload_n 1, 1) := by decide +kernel
theorem d_TrustDeskModel_part_1_7 : decode kY_TrustDeskModel_part_1.2.1 7 = .ok (.invokevirtual 418, 3) := by decide +kernel
theorem d_TrustDeskModel_part_1_10 : decode kY_TrustDeskModel_part_1.2.1 10 = .ok (.ifCond .eq 25, 3) := by decide +kernel
theorem d_TrustDeskModel_part_1_35 : decode kY_TrustDeskModel_part_1.2.1 35 = .ok (.iconst (-1), 1) := by decide +kernel
theorem d_TrustDeskModel_part_1_36 : decode kY_TrustDeskModel_part_1.2.1 36 = .ok (.ireturn, 1) := by decide +kernel
theorem d_TrustDeskModel_part_1_13 : decode kY_TrustDeskModel_part_1.2.1 13 = .ok (.aload_n 0, 1) := by decide +kernel
theorem d_TrustDeskModel_part_1_14 : decode kY_TrustDeskModel_part_1.2.1 14 = .ok (.iload_n 2, 1) := by decide +kernel
theorem d_TrustDeskModel_part_1_15 : decode kY_TrustDeskModel_part_1.2.1 15 = .ok (.invokevirtual 418, 3) := by decide +kernel
theorem d_TrustDeskModel_part_1_18 : decode kY_TrustDeskModel_part_1.2.1 18 = .ok (.ifCond .eq 17, 3) := by decide +kernel
theorem d_TrustDeskModel_part_1_21 : decode kY_TrustDeskModel_part_1.2.1 21 = .ok (.aload_n 0, 1) := by decide +kernel
theorem d_TrustDeskModel_part_1_22 : decode kY_TrustDeskModel_part_1.2.1 22 = .ok (.getfield 92, 3) := by decide +kernel
theorem d_TrustDeskModel_part_1_25 : decode kY_TrustDeskModel_part_1.2.1 25 = .ok (.bipush 12, 2) := by decide +kernel
theorem d_TrustDeskModel_part_1_27 : decode kY_TrustDeskModel_part_1.2.1 27 = .ok (.iload_n 1, 1) := by decide +kernel
theorem d_TrustDeskModel_part_1_28 : decode kY_TrustDeskModel_part_1.2.1 28 = .ok (.imul, 1) := by decide +kernel
theorem d_TrustDeskModel_part_1_29 : decode kY_TrustDeskModel_part_1.2.1 29 = .ok (.iload_n 2, 1) := by decide +kernel
theorem d_TrustDeskModel_part_1_30 : decode kY_TrustDeskModel_part_1.2.1 30 = .ok (.iadd, 1) := by decide +kernel
theorem d_TrustDeskModel_part_1_31 : decode kY_TrustDeskModel_part_1.2.1 31 = .ok (.iaload, 1) := by decide +kernel
theorem d_TrustDeskModel_part_1_32 : decode kY_TrustDeskModel_part_1.2.1 32 = .ok (.goto 4, 3) := by decide +kernel
def w_TrustDeskModel_part_1_x : List Nat := [1300]
set_option maxHeartbeats 100000000 in theorem tc_TrustDeskModel_part_1_x {g : mj_G} {l : Launch} {d : Nat} {T0 : tm_H} {M0 : mj_M} {n0 x9 : Nat} {o0 : Nat} {x1 : Int32} {x2 : Int32} (h_o0 : T0 o0 = some (0, 13, 0)) (yR : rI M0 o0) (I0 : tm_I tm_FT (tm_in w_TrustDeskModel_part_1_x) x9 T0 M0 n0 T0 M0 n0) : mj_Met g l kY_TrustDeskModel_part_1 (d + 1) [.ref o0, .int x1, .int x2] M0 n0 0 0 (tm_Q tm_FT (tm_in w_TrustDeskModel_part_1_x) x9 T0 M0 n0 (fun r _ M => ∃ v : Int32, r = some (.int v) ∧ rI M o0)) := by
  refine mj_enter (by decide) (Nat.le_of_ble_eq_true rfl) ?_
  refine mv_aload_n d_TrustDeskModel_part_1_0 rfl rfl ?_
  refine mv_iconst (v := 0) d_TrustDeskModel_part_1_1 (by decide) ?_
  refine tr_putR (k := 0) I0 yR h_o0 rfl ⟨_, rfl⟩ (fun _ h => by cases h) rfl (fun lo hi h => by cases h) (Or.inl (by decide)) d_TrustDeskModel_part_1_2 p_TrustDeskModel_1_13 rfl rfl (fun M1 I2 q3 K4 R5 A6 V7 => ?_)
  refine mv_aload_n d_TrustDeskModel_part_1_5 rfl rfl ?_
  refine mv_iload_n d_TrustDeskModel_part_1_6 rfl rfl ?_
  obtain ⟨_, b8, -⟩ := I2.1 _ _ h_o0
  refine mv_callV (kc1 := 0) (ks1 := 0) (kc' := 0) (ks' := 0) (As := [.int x1]) (st9 := [.int x1, .ref o0]) d_TrustDeskModel_part_1_7 lV_TrustDeskModel_418 b8 rfl (mj_enter (by decide) (Nat.le_of_ble_eq_true rfl) ?_) rfl (Nat.le_of_ble_eq_true rfl) (Nat.le_of_ble_eq_true rfl) (Nat.le_of_ble_eq_true rfl) (hst := rfl) (fun _ _ _ h => h)
  refine mv_iload_n d_TrustDeskModel_isFund_0 rfl rfl ?_
  have := mz_hi x1
  refine mv_if_ltZ (tgt := 16) (a := x1.toInt) d_TrustDeskModel_isFund_1 (by decide) rfl (fun b9 => ?_) (fun b9 => ?_)
  · refine mv_iconst (v := 0) d_TrustDeskModel_isFund_16 (by decide) ?_
    refine mv_iret d_TrustDeskModel_isFund_17 rfl (by decide) ?_
    refine mv_if_eq_t (tgt := 35) d_TrustDeskModel_part_1_10 (by decide) (by decide) ?_
    refine mv_iconst (v := (-1)) d_TrustDeskModel_part_1_35 (by decide) ?_
    exact mv_iret d_TrustDeskModel_part_1_36 rfl (by first | rfl | decide) ⟨_, I2, _, rfl, R5⟩
  · refine mv_iload_n d_TrustDeskModel_isFund_4 rfl rfl ?_
    refine mv_aload_n d_TrustDeskModel_isFund_5 rfl rfl ?_
    obtain ⟨v11, q10⟩ := tm_atI I2 h_o0 (k := 32) rfl
    refine tr_getK q10 d_TrustDeskModel_isFund_6 f_TrustDeskModel_415_13 ?_
    have := R5.f (k := 32) q10 rfl
    have := mz_hi x1
    have := mz_hi v11
    refine mv_icmp_geZ (tgt := 16) (a := x1.toInt) (b := v11.toInt) d_TrustDeskModel_isFund_9 (by decide) rfl rfl (fun b12 => ?_) (fun b12 => ?_)
    · refine mv_iconst (v := 0) d_TrustDeskModel_isFund_16 (by decide) ?_
      refine mv_iret d_TrustDeskModel_isFund_17 rfl (by decide) ?_
      refine mv_if_eq_t (tgt := 35) d_TrustDeskModel_part_1_10 (by decide) (by decide) ?_
      refine mv_iconst (v := (-1)) d_TrustDeskModel_part_1_35 (by decide) ?_
      exact mv_iret d_TrustDeskModel_part_1_36 rfl (by first | rfl | decide) ⟨_, I2, _, rfl, R5⟩
    · refine mv_iconst (v := 1) d_TrustDeskModel_isFund_12 (by decide) ?_
      refine mv_goto (tgt := 17) d_TrustDeskModel_isFund_13 (by decide) ?_
      refine mv_iret d_TrustDeskModel_isFund_17 rfl (by decide) ?_
      refine mv_if_eq_f (tgt := 35) d_TrustDeskModel_part_1_10 (by decide) (by decide) ?_
      refine mv_aload_n d_TrustDeskModel_part_1_13 rfl rfl ?_
      refine mv_iload_n d_TrustDeskModel_part_1_14 rfl rfl ?_
      obtain ⟨_, b13, -⟩ := I2.1 _ _ h_o0
      refine mv_callV (kc1 := 0) (ks1 := 0) (kc' := 0) (ks' := 0) (As := [.int x2]) (st9 := [.int x2, .ref o0]) d_TrustDeskModel_part_1_15 lV_TrustDeskModel_418 b13 rfl (mj_enter (by decide) (Nat.le_of_ble_eq_true rfl) ?_) rfl (Nat.le_of_ble_eq_true rfl) (Nat.le_of_ble_eq_true rfl) (Nat.le_of_ble_eq_true rfl) (hst := rfl) (fun _ _ _ h => h)
      refine mv_iload_n d_TrustDeskModel_isFund_0 rfl rfl ?_
      have := mz_hi x2
      refine mv_if_ltZ (tgt := 16) (a := x2.toInt) d_TrustDeskModel_isFund_1 (by decide) rfl (fun b14 => ?_) (fun b14 => ?_)
      · refine mv_iconst (v := 0) d_TrustDeskModel_isFund_16 (by decide) ?_
        refine mv_iret d_TrustDeskModel_isFund_17 rfl (by decide) ?_
        refine mv_if_eq_t (tgt := 35) d_TrustDeskModel_part_1_18 (by decide) (by decide) ?_
        refine mv_iconst (v := (-1)) d_TrustDeskModel_part_1_35 (by decide) ?_
        exact mv_iret d_TrustDeskModel_part_1_36 rfl (by first | rfl | decide) ⟨_, I2, _, rfl, R5⟩
      · refine mv_iload_n d_TrustDeskModel_isFund_4 rfl rfl ?_
        refine mv_aload_n d_TrustDeskModel_isFund_5 rfl rfl ?_
        refine tr_getK (k := 32) q10 d_TrustDeskModel_isFund_6 f_TrustDeskModel_415_13 ?_
        have := mz_hi x2
        have := mz_hi v11
        refine mv_icmp_geZ (tgt := 16) (a := x2.toInt) (b := v11.toInt) d_TrustDeskModel_isFund_9 (by decide) rfl rfl (fun b15 => ?_) (fun b15 => ?_)
        · refine mv_iconst (v := 0) d_TrustDeskModel_isFund_16 (by decide) ?_
          refine mv_iret d_TrustDeskModel_isFund_17 rfl (by decide) ?_
          refine mv_if_eq_t (tgt := 35) d_TrustDeskModel_part_1_18 (by decide) (by decide) ?_
          refine mv_iconst (v := (-1)) d_TrustDeskModel_part_1_35 (by decide) ?_
          exact mv_iret d_TrustDeskModel_part_1_36 rfl (by first | rfl | decide) ⟨_, I2, _, rfl, R5⟩
        · refine mv_iconst (v := 1) d_TrustDeskModel_isFund_12 (by decide) ?_
          refine mv_goto (tgt := 17) d_TrustDeskModel_isFund_13 (by decide) ?_
          refine mv_iret d_TrustDeskModel_isFund_17 rfl (by decide) ?_
          refine mv_if_eq_f (tgt := 35) d_TrustDeskModel_part_1_18 (by decide) (by decide) ?_
          refine mv_aload_n d_TrustDeskModel_part_1_21 rfl rfl ?_
          obtain ⟨a17, q16, t_a17⟩ := tm_atR I2 h_o0 (k := 41) rfl
          refine tr_getK q16 d_TrustDeskModel_part_1_22 f_TrustDeskModel_92_13 ?_
          refine mv_bipush (v := 12) d_TrustDeskModel_part_1_25 (by decide) ?_
          refine mv_iload_n d_TrustDeskModel_part_1_27 rfl rfl ?_
          refine mv_imul d_TrustDeskModel_part_1_28 ?_
          refine mv_iload_n d_TrustDeskModel_part_1_29 rfl rfl ?_
          refine mv_iadd d_TrustDeskModel_part_1_30 ?_
          have b18 : (12 * x1 : Int32).toInt = (12 * x1.toInt) := mz_mul2 (by decide) rfl (by omega) (by omega)
          have b19 : ((12 * x1) + x2 : Int32).toInt = ((12 * x1.toInt) + x2.toInt) := mz_add2 b18 rfl (by omega) (by omega)
          refine tr_ialdR (o := o0) (k := 41) I2 q16 t_a17 (by decide) d_TrustDeskModel_part_1_31 (vp_in_iff.mpr (by omega)) (fun v20 e21 => ?_)
          have := R5.a (k := 41) rfl (((12 * x1) + x2) : Int32).toNatClampNeg
          refine mv_goto (tgt := 36) d_TrustDeskModel_part_1_32 (by decide) ?_
          exact mv_iret d_TrustDeskModel_part_1_36 rfl (by first | rfl | decide) ⟨_, I2, _, rfl, R5⟩
abbrev kY_TrustDeskModel_nearest : mj_Y := (⟨"TrustDeskModel", "nearest", "(I)I"⟩, prog_14_method_90_code, 6, (Option.some Jvm.ClassFile.FieldType.int))
theorem d_TrustDeskModel_nearest_0 : decode kY_TrustDeskModel_nearest.2.1 0 = .ok (.aload_n 0, 1) := by decide +kernel
theorem d_TrustDeskModel_nearest_1 : decode kY_TrustDeskModel_nearest.2.1 1 = .ok (.iconst 0, 1) := by decide +kernel
theorem d_TrustDeskModel_nearest_2 : decode kY_TrustDeskModel_nearest.2.1 2 = .ok (.putfield 1, 3) := by decide +kernel
theorem d_TrustDeskModel_nearest_5 : decode kY_TrustDeskModel_nearest.2.1 5 = .ok (.aload_n 0, 1) := by decide +kernel
theorem d_TrustDeskModel_nearest_6 : decode kY_TrustDeskModel_nearest.2.1 6 = .ok (.iload_n 1, 1) := by decide +kernel
theorem d_TrustDeskModel_nearest_7 : decode kY_TrustDeskModel_nearest.2.1 7 = .ok (.invokevirtual 492, 3) := by decide +kernel
theorem d_TrustDeskModel_nearest_10 : decode kY_TrustDeskModel_nearest.2.1 10 = .ok (.ifCond .ne 5, 3) := by decide +kernel
theorem d_TrustDeskModel_nearest_13 : decode kY_TrustDeskModel_nearest.2.1 13 = .ok (.iconst (-1), 1) := by decide +kernel
theorem d_TrustDeskModel_nearest_14 : decode kY_TrustDeskModel_nearest.2.1 14 = .ok (.ireturn, 1) := by decide +kernel
theorem d_TrustDeskModel_nearest_15 : decode kY_TrustDeskModel_nearest.2.1 15 = .ok (.iconst (-1), 1) := by decide +kernel
theorem d_TrustDeskModel_nearest_16 : decode kY_TrustDeskModel_nearest.2.1 16 = .ok (.istore_n 2, 1) := by decide +kernel
theorem d_TrustDeskModel_nearest_17 : decode kY_TrustDeskModel_nearest.2.1 17 = .ok (.aload_n 0, 1) := by decide +kernel
theorem d_TrustDeskModel_nearest_18 : decode kY_TrustDeskModel_nearest.2.1 18 = .ok (.aload_n 0, 1) := by decide +kernel
theorem d_TrustDeskModel_nearest_19 : decode kY_TrustDeskModel_nearest.2.1 19 = .ok (.getfield 164, 3) := by decide +kernel
theorem d_TrustDeskModel_nearest_22 : decode kY_TrustDeskModel_nearest.2.1 22 = .ok (.iconst 1, 1) := by decide +kernel
theorem d_TrustDeskModel_nearest_23 : decode kY_TrustDeskModel_nearest.2.1 23 = .ok (.invokevirtual 396, 3) := by decide +kernel
theorem d_TrustDeskModel_nearest_26 : decode kY_TrustDeskModel_nearest.2.1 26 = .ok (.iconst 1, 1) := by decide +kernel
theorem d_TrustDeskModel_nearest_27 : decode kY_TrustDeskModel_nearest.2.1 27 = .ok (.isub, 1) := by decide +kernel
theorem d_TrustDeskModel_nearest_28 : decode kY_TrustDeskModel_nearest.2.1 28 = .ok (.istore_n 3, 1) := by decide +kernel
theorem d_TrustDeskModel_nearest_29 : decode kY_TrustDeskModel_nearest.2.1 29 = .ok (.iconst 0, 1) := by decide +kernel
theorem d_TrustDeskModel_nearest_30 : decode kY_TrustDeskModel_nearest.2.1 30 = .ok (.istore 4, 2) := by decide +kernel
theorem d_TrustDeskModel_nearest_32 : decode kY_TrustDeskModel_nearest.2.1 32 = .ok (.iload 4, 2) := by decide +kernel
theorem d_TrustDeskModel_nearest_34 : decode kY_TrustDeskModel_nearest.2.1 34 = .ok (.aload_n 0, 1) := by decide +kernel
theorem d_TrustDeskModel_nearest_35 : decode kY_TrustDeskModel_nearest.2.1 35 = .ok (.getfield 435, 3) := by decide +kernel
theorem d_TrustDeskModel_nearest_38 : decode kY_TrustDeskModel_nearest.2.1 38 = .ok (.if_icmp .ge 43, 3) := by decide +kernel
theorem d_TrustDeskModel_nearest_81 : decode kY_TrustDeskModel_nearest.2.1 81 = .ok (.iload_n 2, 1) := by decide +kernel
theorem d_TrustDeskModel_nearest_82 : decode kY_TrustDeskModel_nearest.2.1 82 = .ok (.ireturn, 1) := by decide +kernel
theorem d_TrustDeskModel_nearest_41 : decode kY_TrustDeskModel_nearest.2.1 41 = .ok (.aload_n 0, 1) := by decide +kernel
theorem d_TrustDeskModel_nearest_42 : decode kY_TrustDeskModel_nearest.2.1 42 = .ok (.getfield 76, 3) := by decide +kernel
theorem d_TrustDeskModel_nearest_45 : decode kY_TrustDeskModel_nearest.2.1 45 = .ok (.iload_n 1, 1) := by decide +kernel
theorem d_TrustDeskModel_nearest_46 : decode kY_TrustDeskModel_nearest.2.1 46 = .ok (.iaload, 1) := by decide +kernel
theorem d_TrustDeskModel_nearest_47 : decode kY_TrustDeskModel_nearest.2.1 47 = .ok (.aload_n 0, 1) := by decide +kernel
theorem d_TrustDeskModel_nearest_48 : decode kY_TrustDeskModel_nearest.2.1 48 = .ok (.getfield 116, 3) := by decide +kernel
theorem d_TrustDeskModel_nearest_51 : decode kY_TrustDeskModel_nearest.2.1 51 = .ok (.iload 4, 2) := by decide +kernel
theorem d_TrustDeskModel_nearest_53 : decode kY_TrustDeskModel_nearest.2.1 53 = .ok (.iaload, 1) := by decide +kernel
theorem d_TrustDeskModel_nearest_54 : decode kY_TrustDeskModel_nearest.2.1 54 = .ok (.iand, 1) := by decide +kernel
theorem d_TrustDeskModel_nearest_55 : decode kY_TrustDeskModel_nearest.2.1 55 = .ok (.invokestatic 444, 3) := by decide +kernel
theorem d_TrustDeskModel_nearest_58 : decode kY_TrustDeskModel_nearest.2.1 58 = .ok (.istore 5, 2) := by decide +kernel
theorem d_TrustDeskModel_nearest_60 : decode kY_TrustDeskModel_nearest.2.1 60 = .ok (.iload 5, 2) := by decide +kernel
theorem d_TrustDeskModel_nearest_62 : decode kY_TrustDeskModel_nearest.2.1 62 = .ok (.iload_n 3, 1) := by decide +kernel
theorem d_TrustDeskModel_nearest_63 : decode kY_TrustDeskModel_nearest.2.1 63 = .ok (.if_icmp .gt 6, 3) := by decide +kernel
theorem d_TrustDeskModel_nearest_69 : decode kY_TrustDeskModel_nearest.2.1 69 = .ok (.iload 5, 2) := by decide +kernel
theorem d_TrustDeskModel_nearest_71 : decode kY_TrustDeskModel_nearest.2.1 71 = .ok (.istore_n 3, 1) := by decide +kernel
theorem d_TrustDeskModel_nearest_72 : decode kY_TrustDeskModel_nearest.2.1 72 = .ok (.iload 4, 2) := by decide +kernel
theorem d_TrustDeskModel_nearest_74 : decode kY_TrustDeskModel_nearest.2.1 74 = .ok (.istore_n 2, 1) := by decide +kernel
theorem d_TrustDeskModel_nearest_75 : decode kY_TrustDeskModel_nearest.2.1 75 = .ok (.iinc 4 1, 3) := by decide +kernel
theorem d_TrustDeskModel_nearest_78 : decode kY_TrustDeskModel_nearest.2.1 78 = .ok (.goto (-46), 3) := by decide +kernel
theorem d_TrustDeskModel_nearest_66 : decode kY_TrustDeskModel_nearest.2.1 66 = .ok (.goto 9, 3) := by decide +kernel
def w_TrustDeskModel_nearest_x : List Nat := [1300]
set_option maxHeartbeats 100000000 in theorem tc_TrustDeskModel_nearest_x {g : mj_G} {l : Launch} {d : Nat} {T0 : tm_H} {M0 : mj_M} {n0 x9 : Nat} {o0 : Nat} {x1 : Int32} (h_o0 : T0 o0 = some (0, 13, 0)) (yR : rI M0 o0) (y8 : ∀ i : Nat, i < 880 → 0 ≤ ra M0 o0 8 i) (I0 : tm_I tm_FT (tm_in w_TrustDeskModel_nearest_x) x9 T0 M0 n0 T0 M0 n0) : mj_Met g l kY_TrustDeskModel_nearest (d + 2) [.ref o0, .int x1] M0 n0 0 0 (tm_Q tm_FT (tm_in w_TrustDeskModel_nearest_x) x9 T0 M0 n0 (fun r _ M => ∃ v : Int32, r = some (.int v) ∧ rI M o0)) := by
  refine mj_enter (by decide) (Nat.le_of_ble_eq_true rfl) ?_
  have K1 : ∀ i : Nat, i < 880 → 0 ≤ ra M0 o0 8 i := y8
  refine mv_aload_n d_TrustDeskModel_nearest_0 rfl rfl ?_
  refine mv_iconst (v := 0) d_TrustDeskModel_nearest_1 (by decide) ?_
  refine tr_putR (k := 0) I0 yR h_o0 rfl ⟨_, rfl⟩ (fun _ h => by cases h) rfl (fun lo hi h => by cases h) (Or.inl (by decide)) d_TrustDeskModel_nearest_2 p_TrustDeskModel_1_13 rfl rfl (fun M2 I3 q4 K5 R6 A7 V8 => ?_)
  have K9 : ∀ i : Nat, i < 880 → 0 ≤ ra M2 o0 8 i := (by have e9 := ((sA_f A7 (by decide)) : sA [8] _ _ _) 8 rfl; rw [e9]; exact K1)
  refine mv_aload_n d_TrustDeskModel_nearest_5 rfl rfl ?_
  refine mv_iload_n d_TrustDeskModel_nearest_6 rfl rfl ?_
  obtain ⟨_, b10, -⟩ := I3.1 _ _ h_o0
  refine mv_callV (kc1 := 0) (ks1 := 0) (kc' := 0) (ks' := 0) (As := [.int x1]) (st9 := [.int x1, .ref o0]) d_TrustDeskModel_nearest_7 lV_TrustDeskModel_492 b10 rfl (mj_enter (by decide) (Nat.le_of_ble_eq_true rfl) ?_) rfl (Nat.le_of_ble_eq_true rfl) (Nat.le_of_ble_eq_true rfl) (Nat.le_of_ble_eq_true rfl) (hst := rfl) (fun _ _ _ h => h)
  refine mv_aload_n d_TrustDeskModel_isFree_0 rfl rfl ?_
  refine mv_iload_n d_TrustDeskModel_isFree_1 rfl rfl ?_
  obtain ⟨_, b11, -⟩ := I3.1 _ _ h_o0
  refine mv_callV (kc1 := 0) (ks1 := 0) (kc' := 0) (ks' := 0) (As := [.int x1]) (st9 := [.int x1, .ref o0]) d_TrustDeskModel_isFree_2 lV_TrustDeskModel_418 b11 rfl (mj_enter (by decide) (Nat.le_of_ble_eq_true rfl) ?_) rfl (Nat.le_of_ble_eq_true rfl) (Nat.le_of_ble_eq_true rfl) (Nat.le_of_ble_eq_true rfl) (hst := rfl) (fun _ _ _ h => h)
  refine mv_iload_n d_TrustDeskModel_isFund_0 rfl rfl ?_
  have := mz_hi x1
  refine mv_if_ltZ (tgt := 16) (a := x1.toInt) d_TrustDeskModel_isFund_1 (by decide) rfl (fun b12 => ?_) (fun b12 => ?_)
  · refine mv_iconst (v := 0) d_TrustDeskModel_isFund_16 (by decide) ?_
    refine mv_iret d_TrustDeskModel_isFund_17 rfl (by decide) ?_
    refine mv_if_eq_t (tgt := 22) d_TrustDeskModel_isFree_5 (by decide) (by decide) ?_
    refine mv_iconst (v := 0) d_TrustDeskModel_isFree_22 (by decide) ?_
    refine mv_iret d_TrustDeskModel_isFree_23 rfl (by decide) ?_
    refine mv_if_ne_f (tgt := 15) d_TrustDeskModel_nearest_10 (by decide) (by decide) ?_
    refine mv_iconst (v := (-1)) d_TrustDeskModel_nearest_13 (by decide) ?_
    exact mv_iret d_TrustDeskModel_nearest_14 rfl (by first | rfl | decide) ⟨_, I3, _, rfl, R6⟩
  · refine mv_iload_n d_TrustDeskModel_isFund_4 rfl rfl ?_
    refine mv_aload_n d_TrustDeskModel_isFund_5 rfl rfl ?_
    obtain ⟨v14, q13⟩ := tm_atI I3 h_o0 (k := 32) rfl
    refine tr_getK q13 d_TrustDeskModel_isFund_6 f_TrustDeskModel_415_13 ?_
    have := R6.f (k := 32) q13 rfl
    have := mz_hi x1
    have := mz_hi v14
    refine mv_icmp_geZ (tgt := 16) (a := x1.toInt) (b := v14.toInt) d_TrustDeskModel_isFund_9 (by decide) rfl rfl (fun b15 => ?_) (fun b15 => ?_)
    · refine mv_iconst (v := 0) d_TrustDeskModel_isFund_16 (by decide) ?_
      refine mv_iret d_TrustDeskModel_isFund_17 rfl (by decide) ?_
      refine mv_if_eq_t (tgt := 22) d_TrustDeskModel_isFree_5 (by decide) (by decide) ?_
      refine mv_iconst (v := 0) d_TrustDeskModel_isFree_22 (by decide) ?_
      refine mv_iret d_TrustDeskModel_isFree_23 rfl (by decide) ?_
      refine mv_if_ne_f (tgt := 15) d_TrustDeskModel_nearest_10 (by decide) (by decide) ?_
      refine mv_iconst (v := (-1)) d_TrustDeskModel_nearest_13 (by decide) ?_
      exact mv_iret d_TrustDeskModel_nearest_14 rfl (by first | rfl | decide) ⟨_, I3, _, rfl, R6⟩
    · refine mv_iconst (v := 1) d_TrustDeskModel_isFund_12 (by decide) ?_
      refine mv_goto (tgt := 17) d_TrustDeskModel_isFund_13 (by decide) ?_
      refine mv_iret d_TrustDeskModel_isFund_17 rfl (by decide) ?_
      refine mv_if_eq_f (tgt := 22) d_TrustDeskModel_isFree_5 (by decide) (by decide) ?_
      refine mv_aload_n d_TrustDeskModel_isFree_8 rfl rfl ?_
      obtain ⟨a17, q16, t_a17⟩ := tm_atR I3 h_o0 (k := 37) rfl
      refine tr_getK q16 d_TrustDeskModel_isFree_9 f_TrustDeskModel_79_13 ?_
      refine mv_iload_n d_TrustDeskModel_isFree_12 rfl rfl ?_
      refine tr_ialdR (o := o0) (k := 37) I3 q16 t_a17 (by decide) d_TrustDeskModel_isFree_13 (vp_in_iff.mpr (by omega)) (fun v18 e19 => ?_)
      have := R6.a (k := 37) rfl (x1 : Int32).toNatClampNeg
      refine mv_iconst (v := (-1)) d_TrustDeskModel_isFree_14 (by decide) ?_
      have := mz_hi v18
      refine mv_icmp_neZ (tgt := 22) (a := v18.toInt) (b := (-1)) d_TrustDeskModel_isFree_15 (by decide) rfl (by decide) (fun b20 => ?_) (fun b20 => ?_)
      · refine mv_iconst (v := 0) d_TrustDeskModel_isFree_22 (by decide) ?_
        refine mv_iret d_TrustDeskModel_isFree_23 rfl (by decide) ?_
        refine mv_if_ne_f (tgt := 15) d_TrustDeskModel_nearest_10 (by decide) (by decide) ?_
        refine mv_iconst (v := (-1)) d_TrustDeskModel_nearest_13 (by decide) ?_
        exact mv_iret d_TrustDeskModel_nearest_14 rfl (by first | rfl | decide) ⟨_, I3, _, rfl, R6⟩
      · refine mv_iconst (v := 1) d_TrustDeskModel_isFree_18 (by decide) ?_
        refine mv_goto (tgt := 23) d_TrustDeskModel_isFree_19 (by decide) ?_
        refine mv_iret d_TrustDeskModel_isFree_23 rfl (by decide) ?_
        refine mv_if_ne_t (tgt := 15) d_TrustDeskModel_nearest_10 (by decide) (by decide) ?_
        refine mv_iconst (v := (-1)) d_TrustDeskModel_nearest_15 (by decide) ?_
        refine mv_istore_n (lv' := [(2, .int (-1)), (0, .ref o0), (1, .int x1)]) d_TrustDeskModel_nearest_16 rfl (by decide) rfl ?_
        refine mv_aload_n d_TrustDeskModel_nearest_17 rfl rfl ?_
        refine mv_aload_n d_TrustDeskModel_nearest_18 rfl rfl ?_
        obtain ⟨v22, q21⟩ := tm_atI I3 h_o0 (k := 1) rfl
        refine tr_getK q21 d_TrustDeskModel_nearest_19 f_TrustDeskModel_164_13 ?_
        have := R6.f (k := 1) q21 rfl
        refine mv_iconst (v := 1) d_TrustDeskModel_nearest_22 (by decide) ?_
        obtain ⟨_, b29, -⟩ := I3.1 _ _ h_o0
        have : (1 : Int32).toInt = 1 := by decide
        refine mv_callV (kc' := 0) (ks' := 0) (As := [.int v22, .int 1]) (st9 := [.int 1, .int v22, .ref o0]) d_TrustDeskModel_nearest_23 lV_TrustDeskModel_396 b29 rfl (tc_TrustDeskModel_toldOn_x (d := d) (x9 := x9) (o0 := o0) (x1 := v22) (x2 := 1) h_o0 R6 K9 I3.start) rfl (Nat.le_of_ble_eq_true rfl) (Nat.le_of_ble_eq_true rfl) (Nat.le_of_ble_eq_true rfl) (hst := rfl) (fun b23r M24 n25 b23 => ?_)
        obtain ⟨T26, J27, v30, rfl, R31, f32⟩ := b23
        have I28 := I3.call J27 (tm_sub (by decide)) (Or.inl rfl)
        have t33 := J27.up h_o0
        have K34 : ∀ i : Nat, i < 880 → 0 ≤ ra M24 o0 8 i := (by have e9 := ((sA_c I3 J27 (I3.up h_o0) (by decide +kernel)) : sA [8] _ _ _) 8 rfl; rw [e9]; exact K9)
        have q35 := J27.keep h_o0 (by decide) q4
        have q36 := J27.keep h_o0 (by decide) q13
        have q37 := J27.keep h_o0 (by decide) q16
        have t38 := J27.up t_a17
        have q39 := J27.keep h_o0 (by decide) q21
        refine mv_iconst (v := 1) d_TrustDeskModel_nearest_26 (by decide) ?_
        refine mv_isub d_TrustDeskModel_nearest_27 ?_
        refine mv_istore_n (lv' := [(3, .int (v30 - 1)), (2, .int (-1)), (0, .ref o0), (1, .int x1)]) d_TrustDeskModel_nearest_28 rfl (by decide) rfl ?_
        refine mv_iconst (v := 0) d_TrustDeskModel_nearest_29 (by decide) ?_
        refine mv_istore (lv' := [(4, .int 0), (3, .int (v30 - 1)), (2, .int (-1)), (0, .ref o0), (1, .int x1)]) d_TrustDeskModel_nearest_30 (by decide) rfl ?_
        have L32_40 : ∀ (k : Nat) (i4_40 : Int32) (i3_40 : Int32) (i2_40 : Int32) (T_40 : tm_H) (M_40 : mj_M) (n_40 : Nat), tm_I tm_FT (tm_in w_TrustDeskModel_nearest_x) x9 T0 M0 n0 T_40 M_40 n_40 → T_40 o0 = some (0, 13, 0) → 0 ≤ i4_40.toInt → (rI M_40 o0) → (∀ i : Nat, i < 880 → 0 ≤ ra M_40 o0 8 i) → 2147483647 - i4_40.toInt < (k : Int) → mj_V g l kY_TrustDeskModel_nearest (d + 2) 32 [(4, .int i4_40), (3, .int i3_40), (2, .int i2_40), (0, .ref o0), (1, .int x1)] [] M_40 n_40 0 0 (tm_Q tm_FT (tm_in w_TrustDeskModel_nearest_x) x9 T0 M0 n0 (fun r _ M => ∃ v : Int32, r = some (.int v) ∧ rI M o0)) := by
          intro k40
          induction k40 with
          | zero =>
            intro i4_40 i3_40 i2_40 T_40 M_40 n_40 I_40 h_q0_40 iv0_40 kKR_40 kK8_40 hk40
            have := mz_hi i4_40
            have := kKR_40.1 15 _ _ rfl
            have := kKR_40.1 16 _ _ rfl
            have := kKR_40.1 19 _ _ rfl
            omega
          | succ k40 ih40 =>
            intro i4_40 i3_40 i2_40 T_40 M_40 n_40 I_40 h_q0_40 iv0_40 kKR_40 kK8_40 hk40
            refine mv_iload d_TrustDeskModel_nearest_32 rfl ?_
            refine mv_aload_n d_TrustDeskModel_nearest_34 rfl rfl ?_
            obtain ⟨v42, q41⟩ := tm_atI I_40 h_q0_40 (k := 49) rfl
            refine tr_getK q41 d_TrustDeskModel_nearest_35 f_TrustDeskModel_435_13 ?_
            have := kKR_40.f (k := 49) q41 rfl
            have := mz_hi i4_40
            have := mz_hi v42
            refine mv_icmp_geZ (tgt := 81) (a := i4_40.toInt) (b := v42.toInt) d_TrustDeskModel_nearest_38 (by decide) rfl rfl (fun b43 => ?_) (fun b43 => ?_)
            · refine mv_iload_n d_TrustDeskModel_nearest_81 rfl rfl ?_
              exact mv_iret d_TrustDeskModel_nearest_82 rfl (by first | rfl | decide) ⟨_, I_40, _, rfl, kKR_40⟩
            · refine mv_aload_n d_TrustDeskModel_nearest_41 rfl rfl ?_
              obtain ⟨a45, q44, t_a45⟩ := tm_atR I_40 h_q0_40 (k := 36) rfl
              refine tr_getK q44 d_TrustDeskModel_nearest_42 f_TrustDeskModel_76_13 ?_
              refine mv_iload_n d_TrustDeskModel_nearest_45 rfl rfl ?_
              refine tr_ialdR (o := o0) (k := 36) I_40 q44 t_a45 (by decide) d_TrustDeskModel_nearest_46 (vp_in_iff.mpr (by omega)) (fun v46 e47 => ?_)
              refine mv_aload_n d_TrustDeskModel_nearest_47 rfl rfl ?_
              obtain ⟨a49, q48, t_a49⟩ := tm_atR I_40 h_q0_40 (k := 50) rfl
              refine tr_getK q48 d_TrustDeskModel_nearest_48 f_TrustDeskModel_116_13 ?_
              refine mv_iload d_TrustDeskModel_nearest_51 rfl ?_
              refine tr_ialdR (o := o0) (k := 50) I_40 q48 t_a49 (by decide) d_TrustDeskModel_nearest_53 (vp_in_iff.mpr (by omega)) (fun v50 e51 => ?_)
              refine mv_iand d_TrustDeskModel_nearest_54 ?_
              refine mv_callS (kc' := 0) (ks' := 0) (As := [.int (v46 &&& v50)]) (st9 := [.int (v46 &&& v50)]) d_TrustDeskModel_nearest_55 lS_TrustDeskModel_444 (tc_TrustDeskModel_size (d := (d + 1)) (x9 := x9) (x1 := (v46 &&& v50))  I_40.start) rfl (Nat.le_of_ble_eq_true rfl) (Nat.le_of_ble_eq_true rfl) (Nat.le_of_ble_eq_true rfl) (hst := rfl) (fun b52r M53 n54 b52 => ?_)
              obtain ⟨T55, J56, v58, rfl⟩ := b52
              have I57 := I_40.call J56 (tm_sub (by decide)) (Or.inl rfl)
              have t59 := J56.up h_q0_40
              have R60 := rI_call I_40 J56 (I_40.up h_o0) (fun _ _ => rfl) (fun _ _ => rfl) kKR_40
              have K61 : ∀ i : Nat, i < 880 → 0 ≤ ra M53 o0 8 i := (by have e9 := ((sA_c I_40 J56 (I_40.up h_o0) (by decide +kernel)) : sA [8] _ _ _) 8 rfl; rw [e9]; exact kK8_40)
              have q62 := J56.keep h_q0_40 (by decide) q41
              have q63 := J56.keep h_q0_40 (by decide) q44
              have t64 := J56.up t_a45
              have q65 := J56.keep h_q0_40 (by decide) q48
              have t66 := J56.up t_a49
              refine mv_istore (lv' := [(5, .int v58), (4, .int i4_40), (3, .int i3_40), (2, .int i2_40), (0, .ref o0), (1, .int x1)]) d_TrustDeskModel_nearest_58 (by decide) rfl ?_
              refine mv_iload d_TrustDeskModel_nearest_60 rfl ?_
              refine mv_iload_n d_TrustDeskModel_nearest_62 rfl rfl ?_
              have := mz_hi v58
              have := mz_hi i3_40
              refine mv_icmp_gtZ (tgt := 69) (a := v58.toInt) (b := i3_40.toInt) d_TrustDeskModel_nearest_63 (by decide) rfl rfl (fun b67 => ?_) (fun b67 => ?_)
              · refine mv_iload d_TrustDeskModel_nearest_69 rfl ?_
                refine mv_istore_n (lv' := [(3, .int v58), (5, .int v58), (4, .int i4_40), (2, .int i2_40), (0, .ref o0), (1, .int x1)]) d_TrustDeskModel_nearest_71 rfl (by decide) rfl ?_
                refine mv_iload d_TrustDeskModel_nearest_72 rfl ?_
                refine mv_istore_n (lv' := [(2, .int i4_40), (3, .int v58), (5, .int v58), (4, .int i4_40), (0, .ref o0), (1, .int x1)]) d_TrustDeskModel_nearest_74 rfl (by decide) rfl ?_
                refine mv_iinc (v := (i4_40 + 1)) (lv' := [(4, .int (i4_40 + 1)), (2, .int i4_40), (3, .int v58), (5, .int v58), (0, .ref o0), (1, .int x1)]) d_TrustDeskModel_nearest_75 rfl rfl (by decide) rfl ?_
                refine mv_goto (tgt := 32) d_TrustDeskModel_nearest_78 (by decide) ?_
                have b68 : (i4_40 + 1 : Int32).toInt = (i4_40.toInt + 1) := mz_add2 rfl (by decide) (by omega) (by omega)
                refine mv_locals (lv' := [(4, .int (i4_40 + 1)), (3, .int v58), (2, .int i4_40), (0, .ref o0), (1, .int x1)]) (by intro q hq; simp only [List.mem_cons, List.not_mem_nil, or_false] at hq; rcases hq with rfl | rfl | rfl | rfl | rfl <;> rfl) ?_
                have b69 : (i4_40 + 1).toInt = i4_40.toInt + 1 := mz_addn 1 1 (by decide) (by have := mz_lo i4_40; omega) (by have := mz_hi i4_40; omega)
                exact (ih40 (i4_40 + 1) v58 i4_40 T55 M53 n54 I57 t59 (by first | omega | decide | exact fun h9 => absurd (by decide) h9) R60 K61 (by omega))
              · refine mv_goto (tgt := 75) d_TrustDeskModel_nearest_66 (by decide) ?_
                refine mv_iinc (v := (i4_40 + 1)) (lv' := [(4, .int (i4_40 + 1)), (5, .int v58), (3, .int i3_40), (2, .int i2_40), (0, .ref o0), (1, .int x1)]) d_TrustDeskModel_nearest_75 rfl rfl (by decide) rfl ?_
                refine mv_goto (tgt := 32) d_TrustDeskModel_nearest_78 (by decide) ?_
                have b70 : (i4_40 + 1 : Int32).toInt = (i4_40.toInt + 1) := mz_add2 rfl (by decide) (by omega) (by omega)
                refine mv_locals (lv' := [(4, .int (i4_40 + 1)), (3, .int i3_40), (2, .int i2_40), (0, .ref o0), (1, .int x1)]) (by intro q hq; simp only [List.mem_cons, List.not_mem_nil, or_false] at hq; rcases hq with rfl | rfl | rfl | rfl | rfl <;> rfl) ?_
                have b71 : (i4_40 + 1).toInt = i4_40.toInt + 1 := mz_addn 1 1 (by decide) (by have := mz_lo i4_40; omega) (by have := mz_hi i4_40; omega)
                exact (ih40 (i4_40 + 1) i3_40 i2_40 T55 M53 n54 I57 t59 (by first | omega | decide | exact fun h9 => absurd (by decide) h9) R60 K61 (by omega))
        have : ((-1) : Int32).toInt = (-1) := by decide
        have : (0 : Int32).toInt = 0 := by decide
        exact mv_less (Nat.zero_le _) (Nat.zero_le _) (L32_40 4294967296 0 (v30 - 1) (-1) T26 M24 n25 I28 t33 (by first | omega | decide | exact fun h9 => absurd (by decide) h9) R31 K34 (by show (2147483647 - (0 : Int) : Int) < _; decide))
abbrev kY_TrustDeskModel_account : mj_Y := (⟨"TrustDeskModel", "account", "(II)I"⟩, prog_14_method_101_code, 4, (Option.some Jvm.ClassFile.FieldType.int))
theorem d_TrustDeskModel_account_0 : decode kY_TrustDeskModel_account.2.1 0 = .ok (.aload_n 0, 1) := by decide +kernel
theorem d_TrustDeskModel_account_1 : decode kY_TrustDeskModel_account.2.1 1 = .ok (.iconst 0, 1) := by decide +kernel
theorem d_TrustDeskModel_account_2 : decode kY_TrustDeskModel_account.2.1 2 = .ok (.putfield 1, 3) := by decide +kernel
theorem d_TrustDeskModel_account_5 : decode kY_TrustDeskModel_account.2.1 5 = .ok (.aload_n 0, 1) := by decide +kernel
theorem d_TrustDeskModel_account_6 : decode kY_TrustDeskModel_account.2.1 6 = .ok (.iload_n 1, 1) := by decide +kernel
theorem d_TrustDeskModel_account_7 : decode kY_TrustDeskModel_account.2.1 7 = .ok (.invokevirtual 418, 3) := by decide +kernel
theorem d_TrustDeskModel_account_10 : decode kY_TrustDeskModel_account.2.1 10 = .ok (.ifCond .eq 48, 3) := by decide +kernel
theorem d_TrustDeskModel_account_58 : decode kY_TrustDeskModel_account.2.1 58 = .ok (.iconst (-1), 1) := by decide +kernel
theorem d_TrustDeskModel_account_59 : decode kY_TrustDeskModel_account.2.1 59 = .ok (.ireturn, 1) := by decide +kernel
theorem d_TrustDeskModel_account_13 : decode kY_TrustDeskModel_account.2.1 13 = .ok (.iload_n 2, 1) := by decide +kernel
theorem d_TrustDeskModel_account_14 : decode kY_TrustDeskModel_account.2.1 14 = .ok (.invokestatic 173, 3) := by decide +kernel
theorem d_TrustDeskModel_account_17 : decode kY_TrustDeskModel_account.2.1 17 = .ok (.ifCond .eq 41, 3) := by decide +kernel
theorem d_TrustDeskModel_account_20 : decode kY_TrustDeskModel_account.2.1 20 = .ok (.aload_n 0, 1) := by decide +kernel
theorem d_TrustDeskModel_account_21 : decode kY_TrustDeskModel_account.2.1 21 = .ok (.getfield 164, 3) := by decide +kernel
theorem d_TrustDeskModel_account_24 : decode kY_TrustDeskModel_account.2.1 24 = .ok (.sipush 360, 3) := by decide +kernel
theorem d_TrustDeskModel_account_27 : decode kY_TrustDeskModel_account.2.1 27 = .ok (.iload_n 2, 1) := by decide +kernel
theorem d_TrustDeskModel_account_28 : decode kY_TrustDeskModel_account.2.1 28 = .ok (.iconst 1, 1) := by decide +kernel
theorem d_TrustDeskModel_account_29 : decode kY_TrustDeskModel_account.2.1 29 = .ok (.iadd, 1) := by decide +kernel
theorem d_TrustDeskModel_account_30 : decode kY_TrustDeskModel_account.2.1 30 = .ok (.imul, 1) := by decide +kernel
theorem d_TrustDeskModel_account_31 : decode kY_TrustDeskModel_account.2.1 31 = .ok (.if_icmp .lt 27, 3) := by decide +kernel
theorem d_TrustDeskModel_account_34 : decode kY_TrustDeskModel_account.2.1 34 = .ok (.aload_n 0, 1) := by decide +kernel
theorem d_TrustDeskModel_account_35 : decode kY_TrustDeskModel_account.2.1 35 = .ok (.getfield 161, 3) := by decide +kernel
theorem f_TrustDeskModel_161_13 : mj_fl "TrustDeskModel" 161 13 71 := ⟨kR_TrustDeskModel, kF_TrustDeskModel, 72, "TrustDeskModel", rfl, kg_13, by decide, (mj_in1 (List.mem_of_getElem? (i := 1457) (by decide +kernel)) rfl), Or.inl rfl⟩
theorem d_TrustDeskModel_account_38 : decode kY_TrustDeskModel_account.2.1 38 = .ok (.bipush 101, 2) := by decide +kernel
theorem d_TrustDeskModel_account_40 : decode kY_TrustDeskModel_account.2.1 40 = .ok (.iload_n 1, 1) := by decide +kernel
theorem d_TrustDeskModel_account_41 : decode kY_TrustDeskModel_account.2.1 41 = .ok (.imul, 1) := by decide +kernel
theorem d_TrustDeskModel_account_42 : decode kY_TrustDeskModel_account.2.1 42 = .ok (.iload_n 2, 1) := by decide +kernel
theorem d_TrustDeskModel_account_43 : decode kY_TrustDeskModel_account.2.1 43 = .ok (.iadd, 1) := by decide +kernel
theorem d_TrustDeskModel_account_44 : decode kY_TrustDeskModel_account.2.1 44 = .ok (.baload, 1) := by decide +kernel
theorem d_TrustDeskModel_account_45 : decode kY_TrustDeskModel_account.2.1 45 = .ok (.ifCond .ne 13, 3) := by decide +kernel
theorem d_TrustDeskModel_account_48 : decode kY_TrustDeskModel_account.2.1 48 = .ok (.aload_n 0, 1) := by decide +kernel
theorem d_TrustDeskModel_account_49 : decode kY_TrustDeskModel_account.2.1 49 = .ok (.getfield 592, 3) := by decide +kernel
theorem d_TrustDeskModel_account_52 : decode kY_TrustDeskModel_account.2.1 52 = .ok (.sipush 200, 3) := by decide +kernel
theorem d_TrustDeskModel_account_55 : decode kY_TrustDeskModel_account.2.1 55 = .ok (.if_icmp .ne 5, 3) := by decide +kernel
theorem d_TrustDeskModel_account_60 : decode kY_TrustDeskModel_account.2.1 60 = .ok (.aload_n 0, 1) := by decide +kernel
theorem d_TrustDeskModel_account_61 : decode kY_TrustDeskModel_account.2.1 61 = .ok (.getfield 161, 3) := by decide +kernel
theorem d_TrustDeskModel_account_64 : decode kY_TrustDeskModel_account.2.1 64 = .ok (.bipush 101, 2) := by decide +kernel
theorem d_TrustDeskModel_account_66 : decode kY_TrustDeskModel_account.2.1 66 = .ok (.iload_n 1, 1) := by decide +kernel
theorem d_TrustDeskModel_account_67 : decode kY_TrustDeskModel_account.2.1 67 = .ok (.imul, 1) := by decide +kernel
theorem d_TrustDeskModel_account_68 : decode kY_TrustDeskModel_account.2.1 68 = .ok (.iload_n 2, 1) := by decide +kernel
theorem d_TrustDeskModel_account_69 : decode kY_TrustDeskModel_account.2.1 69 = .ok (.iadd, 1) := by decide +kernel
theorem d_TrustDeskModel_account_70 : decode kY_TrustDeskModel_account.2.1 70 = .ok (.iconst 1, 1) := by decide +kernel
theorem d_TrustDeskModel_account_71 : decode kY_TrustDeskModel_account.2.1 71 = .ok (.bastore, 1) := by decide +kernel
theorem d_TrustDeskModel_account_72 : decode kY_TrustDeskModel_account.2.1 72 = .ok (.aload_n 0, 1) := by decide +kernel
theorem d_TrustDeskModel_account_73 : decode kY_TrustDeskModel_account.2.1 73 = .ok (.dup, 1) := by decide +kernel
theorem d_TrustDeskModel_account_74 : decode kY_TrustDeskModel_account.2.1 74 = .ok (.getfield 592, 3) := by decide +kernel
theorem d_TrustDeskModel_account_77 : decode kY_TrustDeskModel_account.2.1 77 = .ok (.iconst 1, 1) := by decide +kernel
theorem d_TrustDeskModel_account_78 : decode kY_TrustDeskModel_account.2.1 78 = .ok (.iadd, 1) := by decide +kernel
theorem d_TrustDeskModel_account_79 : decode kY_TrustDeskModel_account.2.1 79 = .ok (.putfield 592, 3) := by decide +kernel
theorem p_TrustDeskModel_592_13 : mj_fp "TrustDeskModel" 592 13 70 (kt_TrustDeskModel 70) false := ⟨kR_TrustDeskModel, kF_TrustDeskModel, 72, "TrustDeskModel", kt_TrustDeskModel, rfl, kg_13, by decide, (mj_in1 (List.mem_of_getElem? (i := 1456) (by decide +kernel)) rfl), Or.inl rfl, kto_TrustDeskModel, kn_TrustDeskModel, rfl, rfl, fun h => by cases h⟩
theorem d_TrustDeskModel_account_82 : decode kY_TrustDeskModel_account.2.1 82 = .ok (.sipush 360, 3) := by decide +kernel
theorem d_TrustDeskModel_account_85 : decode kY_TrustDeskModel_account.2.1 85 = .ok (.iload_n 2, 1) := by decide +kernel
theorem d_TrustDeskModel_account_86 : decode kY_TrustDeskModel_account.2.1 86 = .ok (.imul, 1) := by decide +kernel
theorem d_TrustDeskModel_account_87 : decode kY_TrustDeskModel_account.2.1 87 = .ok (.sipush 359, 3) := by decide +kernel
theorem d_TrustDeskModel_account_90 : decode kY_TrustDeskModel_account.2.1 90 = .ok (.iadd, 1) := by decide +kernel
theorem d_TrustDeskModel_account_91 : decode kY_TrustDeskModel_account.2.1 91 = .ok (.istore_n 3, 1) := by decide +kernel
theorem d_TrustDeskModel_account_92 : decode kY_TrustDeskModel_account.2.1 92 = .ok (.iconst 0, 1) := by decide +kernel
theorem d_TrustDeskModel_account_93 : decode kY_TrustDeskModel_account.2.1 93 = .ok (.aload_n 0, 1) := by decide +kernel
theorem d_TrustDeskModel_account_94 : decode kY_TrustDeskModel_account.2.1 94 = .ok (.getfield 164, 3) := by decide +kernel
theorem d_TrustDeskModel_account_97 : decode kY_TrustDeskModel_account.2.1 97 = .ok (.iload_n 3, 1) := by decide +kernel
theorem d_TrustDeskModel_account_98 : decode kY_TrustDeskModel_account.2.1 98 = .ok (.isub, 1) := by decide +kernel
theorem d_TrustDeskModel_account_99 : decode kY_TrustDeskModel_account.2.1 99 = .ok (.aload_n 0, 1) := by decide +kernel
theorem d_TrustDeskModel_account_100 : decode kY_TrustDeskModel_account.2.1 100 = .ok (.iload_n 3, 1) := by decide +kernel
theorem d_TrustDeskModel_account_101 : decode kY_TrustDeskModel_account.2.1 101 = .ok (.iconst 3, 1) := by decide +kernel
theorem d_TrustDeskModel_account_102 : decode kY_TrustDeskModel_account.2.1 102 = .ok (.invokevirtual 396, 3) := by decide +kernel
theorem d_TrustDeskModel_account_105 : decode kY_TrustDeskModel_account.2.1 105 = .ok (.isub, 1) := by decide +kernel
theorem d_TrustDeskModel_account_106 : decode kY_TrustDeskModel_account.2.1 106 = .ok (.invokestatic 450, 3) := by decide +kernel
theorem d_TrustDeskModel_account_109 : decode kY_TrustDeskModel_account.2.1 109 = .ok (.ireturn, 1) := by decide +kernel
def w_TrustDeskModel_account_x : List Nat := [1300, 1370, 20071]
set_option maxHeartbeats 100000000 in theorem tc_TrustDeskModel_account_x {g : mj_G} {l : Launch} {d : Nat} {T0 : tm_H} {M0 : mj_M} {n0 x9 : Nat} {o0 : Nat} {x1 : Int32} {x2 : Int32} (h_o0 : T0 o0 = some (0, 13, 0)) (yR : rI M0 o0) (y8 : ∀ i : Nat, i < 880 → 0 ≤ ra M0 o0 8 i) (I0 : tm_I tm_FT (tm_in w_TrustDeskModel_account_x) x9 T0 M0 n0 T0 M0 n0) : mj_Met g l kY_TrustDeskModel_account (d + 2) [.ref o0, .int x1, .int x2] M0 n0 0 0 (tm_Q tm_FT (tm_in w_TrustDeskModel_account_x) x9 T0 M0 n0 (fun r _ M => ∃ v : Int32, r = some (.int v) ∧ rI M o0)) := by
  refine mj_enter (by decide) (Nat.le_of_ble_eq_true rfl) ?_
  have K1 : ∀ i : Nat, i < 880 → 0 ≤ ra M0 o0 8 i := y8
  refine mv_aload_n d_TrustDeskModel_account_0 rfl rfl ?_
  refine mv_iconst (v := 0) d_TrustDeskModel_account_1 (by decide) ?_
  refine tr_putR (k := 0) I0 yR h_o0 rfl ⟨_, rfl⟩ (fun _ h => by cases h) rfl (fun lo hi h => by cases h) (Or.inl (by decide)) d_TrustDeskModel_account_2 p_TrustDeskModel_1_13 rfl rfl (fun M2 I3 q4 K5 R6 A7 V8 => ?_)
  have K9 : ∀ i : Nat, i < 880 → 0 ≤ ra M2 o0 8 i := (by have e9 := ((sA_f A7 (by decide)) : sA [8] _ _ _) 8 rfl; rw [e9]; exact K1)
  refine mv_aload_n d_TrustDeskModel_account_5 rfl rfl ?_
  refine mv_iload_n d_TrustDeskModel_account_6 rfl rfl ?_
  obtain ⟨_, b10, -⟩ := I3.1 _ _ h_o0
  refine mv_callV (kc1 := 0) (ks1 := 0) (kc' := 0) (ks' := 0) (As := [.int x1]) (st9 := [.int x1, .ref o0]) d_TrustDeskModel_account_7 lV_TrustDeskModel_418 b10 rfl (mj_enter (by decide) (Nat.le_of_ble_eq_true rfl) ?_) rfl (Nat.le_of_ble_eq_true rfl) (Nat.le_of_ble_eq_true rfl) (Nat.le_of_ble_eq_true rfl) (hst := rfl) (fun _ _ _ h => h)
  refine mv_iload_n d_TrustDeskModel_isFund_0 rfl rfl ?_
  have := mz_hi x1
  refine mv_if_ltZ (tgt := 16) (a := x1.toInt) d_TrustDeskModel_isFund_1 (by decide) rfl (fun b11 => ?_) (fun b11 => ?_)
  · refine mv_iconst (v := 0) d_TrustDeskModel_isFund_16 (by decide) ?_
    refine mv_iret d_TrustDeskModel_isFund_17 rfl (by decide) ?_
    refine mv_if_eq_t (tgt := 58) d_TrustDeskModel_account_10 (by decide) (by decide) ?_
    refine mv_iconst (v := (-1)) d_TrustDeskModel_account_58 (by decide) ?_
    exact mv_iret d_TrustDeskModel_account_59 rfl (by first | rfl | decide) ⟨_, I3, _, rfl, R6⟩
  · refine mv_iload_n d_TrustDeskModel_isFund_4 rfl rfl ?_
    refine mv_aload_n d_TrustDeskModel_isFund_5 rfl rfl ?_
    obtain ⟨v13, q12⟩ := tm_atI I3 h_o0 (k := 32) rfl
    refine tr_getK q12 d_TrustDeskModel_isFund_6 f_TrustDeskModel_415_13 ?_
    have := R6.f (k := 32) q12 rfl
    have := mz_hi x1
    have := mz_hi v13
    refine mv_icmp_geZ (tgt := 16) (a := x1.toInt) (b := v13.toInt) d_TrustDeskModel_isFund_9 (by decide) rfl rfl (fun b14 => ?_) (fun b14 => ?_)
    · refine mv_iconst (v := 0) d_TrustDeskModel_isFund_16 (by decide) ?_
      refine mv_iret d_TrustDeskModel_isFund_17 rfl (by decide) ?_
      refine mv_if_eq_t (tgt := 58) d_TrustDeskModel_account_10 (by decide) (by decide) ?_
      refine mv_iconst (v := (-1)) d_TrustDeskModel_account_58 (by decide) ?_
      exact mv_iret d_TrustDeskModel_account_59 rfl (by first | rfl | decide) ⟨_, I3, _, rfl, R6⟩
    · refine mv_iconst (v := 1) d_TrustDeskModel_isFund_12 (by decide) ?_
      refine mv_goto (tgt := 17) d_TrustDeskModel_isFund_13 (by decide) ?_
      refine mv_iret d_TrustDeskModel_isFund_17 rfl (by decide) ?_
      refine mv_if_eq_f (tgt := 58) d_TrustDeskModel_account_10 (by decide) (by decide) ?_
      refine mv_iload_n d_TrustDeskModel_account_13 rfl rfl ?_
      refine mv_callS (kc1 := 0) (ks1 := 0) (kc' := 0) (ks' := 0) (As := [.int x2]) (st9 := [.int x2]) d_TrustDeskModel_account_14 lS_TrustDeskModel_173 (mj_enter (by decide) (Nat.le_of_ble_eq_true rfl) ?_) rfl (Nat.le_of_ble_eq_true rfl) (Nat.le_of_ble_eq_true rfl) (Nat.le_of_ble_eq_true rfl) (hst := rfl) (fun _ _ _ h => h)
      refine mv_iload_n d_TrustDeskModel_isYear_0 rfl rfl ?_
      have := mz_hi x2
      refine mv_if_ltZ (tgt := 14) (a := x2.toInt) d_TrustDeskModel_isYear_1 (by decide) rfl (fun b15 => ?_) (fun b15 => ?_)
      · refine mv_iconst (v := 0) d_TrustDeskModel_isYear_14 (by decide) ?_
        refine mv_iret d_TrustDeskModel_isYear_15 rfl (by decide) ?_
        refine mv_if_eq_t (tgt := 58) d_TrustDeskModel_account_17 (by decide) (by decide) ?_
        refine mv_iconst (v := (-1)) d_TrustDeskModel_account_58 (by decide) ?_
        exact mv_iret d_TrustDeskModel_account_59 rfl (by first | rfl | decide) ⟨_, I3, _, rfl, R6⟩
      · refine mv_iload_n d_TrustDeskModel_isYear_4 rfl rfl ?_
        refine mv_bipush (v := 100) d_TrustDeskModel_isYear_5 (by decide) ?_
        have := mz_hi x2
        refine mv_icmp_gtZ (tgt := 14) (a := x2.toInt) (b := 100) d_TrustDeskModel_isYear_7 (by decide) rfl (by decide) (fun b16 => ?_) (fun b16 => ?_)
        · refine mv_iconst (v := 0) d_TrustDeskModel_isYear_14 (by decide) ?_
          refine mv_iret d_TrustDeskModel_isYear_15 rfl (by decide) ?_
          refine mv_if_eq_t (tgt := 58) d_TrustDeskModel_account_17 (by decide) (by decide) ?_
          refine mv_iconst (v := (-1)) d_TrustDeskModel_account_58 (by decide) ?_
          exact mv_iret d_TrustDeskModel_account_59 rfl (by first | rfl | decide) ⟨_, I3, _, rfl, R6⟩
        · refine mv_iconst (v := 1) d_TrustDeskModel_isYear_10 (by decide) ?_
          refine mv_goto (tgt := 15) d_TrustDeskModel_isYear_11 (by decide) ?_
          refine mv_iret d_TrustDeskModel_isYear_15 rfl (by decide) ?_
          refine mv_if_eq_f (tgt := 58) d_TrustDeskModel_account_17 (by decide) (by decide) ?_
          refine mv_aload_n d_TrustDeskModel_account_20 rfl rfl ?_
          obtain ⟨v18, q17⟩ := tm_atI I3 h_o0 (k := 1) rfl
          refine tr_getK q17 d_TrustDeskModel_account_21 f_TrustDeskModel_164_13 ?_
          have := R6.f (k := 1) q17 rfl
          refine mv_sipush (v := 360) d_TrustDeskModel_account_24 (by decide) ?_
          refine mv_iload_n d_TrustDeskModel_account_27 rfl rfl ?_
          refine mv_iconst (v := 1) d_TrustDeskModel_account_28 (by decide) ?_
          refine mv_iadd d_TrustDeskModel_account_29 ?_
          refine mv_imul d_TrustDeskModel_account_30 ?_
          have b19 : (x2 + 1 : Int32).toInt = (x2.toInt + 1) := mz_add2 rfl (by decide) (by omega) (by omega)
          have b20 : (360 * (x2 + 1) : Int32).toInt = (360 * (x2.toInt + 1)) := mz_mul2 (by decide) b19 (by omega) (by omega)
          have := mz_hi v18
          have := mz_hi (360 * (x2 + 1))
          refine mv_icmp_ltZ (tgt := 58) (a := v18.toInt) (b := (360 * (x2 + 1)).toInt) d_TrustDeskModel_account_31 (by decide) rfl rfl (fun b21 => ?_) (fun b21 => ?_)
          · refine mv_iconst (v := (-1)) d_TrustDeskModel_account_58 (by decide) ?_
            exact mv_iret d_TrustDeskModel_account_59 rfl (by first | rfl | decide) ⟨_, I3, _, rfl, R6⟩
          · refine mv_aload_n d_TrustDeskModel_account_34 rfl rfl ?_
            obtain ⟨a23, q22, t_a23⟩ := tm_atR I3 h_o0 (k := 71) rfl
            refine tr_getK q22 d_TrustDeskModel_account_35 f_TrustDeskModel_161_13 ?_
            refine mv_bipush (v := 101) d_TrustDeskModel_account_38 (by decide) ?_
            refine mv_iload_n d_TrustDeskModel_account_40 rfl rfl ?_
            refine mv_imul d_TrustDeskModel_account_41 ?_
            refine mv_iload_n d_TrustDeskModel_account_42 rfl rfl ?_
            refine mv_iadd d_TrustDeskModel_account_43 ?_
            have b24 : (101 * x1 : Int32).toInt = (101 * x1.toInt) := mz_mul2 (by decide) rfl (by omega) (by omega)
            have b25 : ((101 * x1) + x2 : Int32).toInt = ((101 * x1.toInt) + x2.toInt) := mz_add2 b24 rfl (by omega) (by omega)
            refine tr_zaldR (o := o0) (k := 71) I3 q22 t_a23 (by decide) d_TrustDeskModel_account_44 (vp_in_iff.mpr (by omega)) (fun v26 e27 => ?_)
            have := mz_hi v26
            refine mv_if_neZ (tgt := 58) (a := v26.toInt) d_TrustDeskModel_account_45 (by decide) rfl (fun b28 => ?_) (fun b28 => ?_)
            · refine mv_iconst (v := (-1)) d_TrustDeskModel_account_58 (by decide) ?_
              exact mv_iret d_TrustDeskModel_account_59 rfl (by first | rfl | decide) ⟨_, I3, _, rfl, R6⟩
            · refine mv_aload_n d_TrustDeskModel_account_48 rfl rfl ?_
              obtain ⟨v30, q29⟩ := tm_atI I3 h_o0 (k := 70) rfl
              refine tr_getK q29 d_TrustDeskModel_account_49 f_TrustDeskModel_592_13 ?_
              have := R6.f (k := 70) q29 rfl
              refine mv_sipush (v := 200) d_TrustDeskModel_account_52 (by decide) ?_
              have := mz_hi v30
              refine mv_icmp_neZ (tgt := 60) (a := v30.toInt) (b := 200) d_TrustDeskModel_account_55 (by decide) rfl (by decide) (fun b31 => ?_) (fun b31 => ?_)
              · refine mv_aload_n d_TrustDeskModel_account_60 rfl rfl ?_
                refine tr_getK (k := 71) q22 d_TrustDeskModel_account_61 f_TrustDeskModel_161_13 ?_
                refine mv_bipush (v := 101) d_TrustDeskModel_account_64 (by decide) ?_
                refine mv_iload_n d_TrustDeskModel_account_66 rfl rfl ?_
                refine mv_imul d_TrustDeskModel_account_67 ?_
                refine mv_iload_n d_TrustDeskModel_account_68 rfl rfl ?_
                refine mv_iadd d_TrustDeskModel_account_69 ?_
                refine mv_iconst (v := 1) d_TrustDeskModel_account_70 (by decide) ?_
                have b32 : (101 * x1 : Int32).toInt = (101 * x1.toInt) := mz_mul2 (by decide) rfl (by omega) (by omega)
                have b33 : ((101 * x1) + x2 : Int32).toInt = ((101 * x1.toInt) + x2.toInt) := mz_add2 b32 rfl (by omega) (by omega)
                refine tr_zastR (k := 71) I3 R6 (I3.up h_o0) q22 t_a23 (by decide) (by decide) rfl (Or.inl (by decide)) d_TrustDeskModel_account_71 (vp_in_iff.mpr (by omega)) (fun M34 I35 K36 R37 A39 V40 => ?_)
                have K41 : ∀ i : Nat, i < 880 → 0 ≤ ra M34 o0 8 i := (by have e9 := ((sA_a A39 (by decide +kernel)) : sA [8] _ _ _) 8 rfl; rw [e9]; exact K9)
                refine mv_aload_n d_TrustDeskModel_account_72 rfl rfl ?_
                refine mv_dup d_TrustDeskModel_account_73 rfl ?_
                refine tr_getK (k := 70) (K36 _ 13 70 _ q29) d_TrustDeskModel_account_74 f_TrustDeskModel_592_13 ?_
                refine mv_iconst (v := 1) d_TrustDeskModel_account_77 (by decide) ?_
                refine mv_iadd d_TrustDeskModel_account_78 ?_
                have b42 : (v30 + 1 : Int32).toInt = (v30.toInt + 1) := mz_add2 rfl (by decide) (by omega) (by omega)
                refine tr_putR (k := 70) I35 R37 h_o0 rfl ⟨_, rfl⟩ (fun _ h => by cases h) rfl (fun lo hi h => by cases h; exact ⟨by show (0 : Int) ≤ (v30 + 1).toInt; omega, by show (v30 + 1).toInt ≤ (200 : Int); omega⟩) (Or.inl (by decide)) d_TrustDeskModel_account_79 p_TrustDeskModel_592_13 rfl rfl (fun M43 I44 q45 K46 R47 A48 V49 => ?_)
                have K50 : ∀ i : Nat, i < 880 → 0 ≤ ra M43 o0 8 i := (by have e9 := ((sA_f A48 (by decide)) : sA [8] _ _ _) 8 rfl; rw [e9]; exact K41)
                refine mv_sipush (v := 360) d_TrustDeskModel_account_82 (by decide) ?_
                refine mv_iload_n d_TrustDeskModel_account_85 rfl rfl ?_
                refine mv_imul d_TrustDeskModel_account_86 ?_
                refine mv_sipush (v := 359) d_TrustDeskModel_account_87 (by decide) ?_
                refine mv_iadd d_TrustDeskModel_account_90 ?_
                refine mv_istore_n (lv' := [(3, .int ((360 * x2) + 359)), (0, .ref o0), (1, .int x1), (2, .int x2)]) d_TrustDeskModel_account_91 rfl (by decide) rfl ?_
                refine mv_iconst (v := 0) d_TrustDeskModel_account_92 (by decide) ?_
                refine mv_aload_n d_TrustDeskModel_account_93 rfl rfl ?_
                refine tr_getK (k := 1) (K46 _ 13 1 _ rfl (K36 _ 13 1 _ q17)) d_TrustDeskModel_account_94 f_TrustDeskModel_164_13 ?_
                refine mv_iload_n d_TrustDeskModel_account_97 rfl rfl ?_
                refine mv_isub d_TrustDeskModel_account_98 ?_
                refine mv_aload_n d_TrustDeskModel_account_99 rfl rfl ?_
                refine mv_iload_n d_TrustDeskModel_account_100 rfl rfl ?_
                refine mv_iconst (v := 3) d_TrustDeskModel_account_101 (by decide) ?_
                obtain ⟨_, b57, -⟩ := I44.1 _ _ h_o0
                have b58 : (360 * x2 : Int32).toInt = (360 * x2.toInt) := mz_mul2 (by decide) rfl (by omega) (by omega)
                have b59 : ((360 * x2) + 359 : Int32).toInt = ((360 * x2.toInt) + 359) := mz_add2 b58 (by decide) (by omega) (by omega)
                have : (3 : Int32).toInt = 3 := by decide
                refine mv_callV (kc' := 0) (ks' := 0) (As := [.int ((360 * x2) + 359), .int 3]) (st9 := [.int 3, .int ((360 * x2) + 359), .ref o0, .int (v18 - ((360 * x2) + 359)), .int 0]) d_TrustDeskModel_account_102 lV_TrustDeskModel_396 b57 rfl (tc_TrustDeskModel_toldOn_x (d := d) (x9 := x9) (o0 := o0) (x1 := ((360 * x2) + 359)) (x2 := 3) h_o0 R47 K50 I44.start) rfl (Nat.le_of_ble_eq_true rfl) (Nat.le_of_ble_eq_true rfl) (Nat.le_of_ble_eq_true rfl) (hst := rfl) (fun b51r M52 n53 b51 => ?_)
                obtain ⟨T54, J55, v60, rfl, R61, f62⟩ := b51
                have I56 := I44.call J55 (tm_sub (by decide)) (Or.inl rfl)
                have t63 := J55.up h_o0
                have K64 : ∀ i : Nat, i < 880 → 0 ≤ ra M52 o0 8 i := (by have e9 := ((sA_c I44 J55 (I44.up h_o0) (by decide +kernel)) : sA [8] _ _ _) 8 rfl; rw [e9]; exact K50)
                have q65 := J55.keep h_o0 (by decide) (K46 _ 13 0 _ rfl (K36 _ 13 0 _ q4))
                have q66 := J55.keep h_o0 (by decide) (K46 _ 13 32 _ rfl (K36 _ 13 32 _ q12))
                have q67 := J55.keep h_o0 (by decide) (K46 _ 13 1 _ rfl (K36 _ 13 1 _ q17))
                have q68 := J55.keep h_o0 (by decide) (K46 _ 13 71 _ rfl (K36 _ 13 71 _ q22))
                have t69 := J55.up t_a23
                have q70 := J55.keep h_o0 (by decide) q45
                refine mv_isub d_TrustDeskModel_account_105 ?_
                obtain ⟨v71, b72, _, _, _⟩ := mz_max9 0 ((v18 - ((360 * x2) + 359)) - v60)
                have : (0 : Int32).toInt = 0 := by decide
                refine mv_mmax (v := v71) d_TrustDeskModel_account_106 (mj_in1 (List.mem_of_getElem? (i := 1871) (by decide +kernel)) rfl) (Nat.le_of_ble_eq_true rfl) b72 ?_
                exact mv_iret d_TrustDeskModel_account_109 rfl (by first | rfl | decide) ⟨_, I56, _, rfl, R61⟩
              · refine mv_iconst (v := (-1)) d_TrustDeskModel_account_58 (by decide) ?_
                exact mv_iret d_TrustDeskModel_account_59 rfl (by first | rfl | decide) ⟨_, I3, _, rfl, R6⟩
abbrev kY_TrustDeskModel_endOf : mj_Y := (⟨"TrustDeskModel", "endOf", "(III)I"⟩, prog_14_method_107_code, 5, (Option.some Jvm.ClassFile.FieldType.int))
theorem d_TrustDeskModel_endOf_0 : decode kY_TrustDeskModel_endOf.2.1 0 = .ok (.aload_n 0, 1) := by decide +kernel
theorem d_TrustDeskModel_endOf_1 : decode kY_TrustDeskModel_endOf.2.1 1 = .ok (.iconst 0, 1) := by decide +kernel
theorem d_TrustDeskModel_endOf_2 : decode kY_TrustDeskModel_endOf.2.1 2 = .ok (.putfield 1, 3) := by decide +kernel
theorem d_TrustDeskModel_endOf_5 : decode kY_TrustDeskModel_endOf.2.1 5 = .ok (.aload_n 0, 1) := by decide +kernel
theorem d_TrustDeskModel_endOf_6 : decode kY_TrustDeskModel_endOf.2.1 6 = .ok (.iload_n 1, 1) := by decide +kernel
theorem d_TrustDeskModel_endOf_7 : decode kY_TrustDeskModel_endOf.2.1 7 = .ok (.iload_n 2, 1) := by decide +kernel
theorem d_TrustDeskModel_endOf_8 : decode kY_TrustDeskModel_endOf.2.1 8 = .ok (.invokevirtual 455, 3) := by decide +kernel
theorem d_TrustDeskModel_endOf_11 : decode kY_TrustDeskModel_endOf.2.1 11 = .ok (.ifCond .ne 5, 3) := by decide +kernel
theorem d_TrustDeskModel_endOf_14 : decode kY_TrustDeskModel_endOf.2.1 14 = .ok (.iconst (-1), 1) := by decide +kernel
theorem d_TrustDeskModel_endOf_15 : decode kY_TrustDeskModel_endOf.2.1 15 = .ok (.ireturn, 1) := by decide +kernel
theorem d_TrustDeskModel_endOf_16 : decode kY_TrustDeskModel_endOf.2.1 16 = .ok (.bipush 80, 2) := by decide +kernel
theorem d_TrustDeskModel_endOf_18 : decode kY_TrustDeskModel_endOf.2.1 18 = .ok (.iload_n 1, 1) := by decide +kernel
theorem d_TrustDeskModel_endOf_19 : decode kY_TrustDeskModel_endOf.2.1 19 = .ok (.imul, 1) := by decide +kernel
theorem d_TrustDeskModel_endOf_20 : decode kY_TrustDeskModel_endOf.2.1 20 = .ok (.iload_n 2, 1) := by decide +kernel
theorem d_TrustDeskModel_endOf_21 : decode kY_TrustDeskModel_endOf.2.1 21 = .ok (.iadd, 1) := by decide +kernel
theorem d_TrustDeskModel_endOf_22 : decode kY_TrustDeskModel_endOf.2.1 22 = .ok (.istore 4, 2) := by decide +kernel
theorem d_TrustDeskModel_endOf_24 : decode kY_TrustDeskModel_endOf.2.1 24 = .ok (.iload_n 3, 1) := by decide +kernel
theorem d_TrustDeskModel_endOf_25 : decode kY_TrustDeskModel_endOf.2.1 25 = .ok (.tableswitch 68 0 3 #[31, 39, 47, 55], 31) := by decide +kernel
theorem d_TrustDeskModel_endOf_93 : decode kY_TrustDeskModel_endOf.2.1 93 = .ok (.iconst (-1), 1) := by decide +kernel
theorem d_TrustDeskModel_endOf_94 : decode kY_TrustDeskModel_endOf.2.1 94 = .ok (.ireturn, 1) := by decide +kernel
theorem d_TrustDeskModel_endOf_56 : decode kY_TrustDeskModel_endOf.2.1 56 = .ok (.aload_n 0, 1) := by decide +kernel
theorem d_TrustDeskModel_endOf_57 : decode kY_TrustDeskModel_endOf.2.1 57 = .ok (.getfield 107, 3) := by decide +kernel
theorem d_TrustDeskModel_endOf_60 : decode kY_TrustDeskModel_endOf.2.1 60 = .ok (.iload 4, 2) := by decide +kernel
theorem d_TrustDeskModel_endOf_62 : decode kY_TrustDeskModel_endOf.2.1 62 = .ok (.iaload, 1) := by decide +kernel
theorem d_TrustDeskModel_endOf_63 : decode kY_TrustDeskModel_endOf.2.1 63 = .ok (.ireturn, 1) := by decide +kernel
theorem d_TrustDeskModel_endOf_64 : decode kY_TrustDeskModel_endOf.2.1 64 = .ok (.aload_n 0, 1) := by decide +kernel
theorem d_TrustDeskModel_endOf_65 : decode kY_TrustDeskModel_endOf.2.1 65 = .ok (.getfield 110, 3) := by decide +kernel
theorem d_TrustDeskModel_endOf_68 : decode kY_TrustDeskModel_endOf.2.1 68 = .ok (.iload 4, 2) := by decide +kernel
theorem d_TrustDeskModel_endOf_70 : decode kY_TrustDeskModel_endOf.2.1 70 = .ok (.iaload, 1) := by decide +kernel
theorem d_TrustDeskModel_endOf_71 : decode kY_TrustDeskModel_endOf.2.1 71 = .ok (.ireturn, 1) := by decide +kernel
theorem d_TrustDeskModel_endOf_72 : decode kY_TrustDeskModel_endOf.2.1 72 = .ok (.aload_n 0, 1) := by decide +kernel
theorem d_TrustDeskModel_endOf_73 : decode kY_TrustDeskModel_endOf.2.1 73 = .ok (.getfield 113, 3) := by decide +kernel
theorem d_TrustDeskModel_endOf_76 : decode kY_TrustDeskModel_endOf.2.1 76 = .ok (.iload 4, 2) := by decide +kernel
theorem d_TrustDeskModel_endOf_78 : decode kY_TrustDeskModel_endOf.2.1 78 = .ok (.iaload, 1) := by decide +kernel
theorem d_TrustDeskModel_endOf_79 : decode kY_TrustDeskModel_endOf.2.1 79 = .ok (.ireturn, 1) := by decide +kernel
theorem d_TrustDeskModel_endOf_80 : decode kY_TrustDeskModel_endOf.2.1 80 = .ok (.aload_n 0, 1) := by decide +kernel
theorem d_TrustDeskModel_endOf_81 : decode kY_TrustDeskModel_endOf.2.1 81 = .ok (.getfield 29, 3) := by decide +kernel
theorem d_TrustDeskModel_endOf_84 : decode kY_TrustDeskModel_endOf.2.1 84 = .ok (.aload_n 0, 1) := by decide +kernel
theorem d_TrustDeskModel_endOf_85 : decode kY_TrustDeskModel_endOf.2.1 85 = .ok (.getfield 104, 3) := by decide +kernel
theorem d_TrustDeskModel_endOf_88 : decode kY_TrustDeskModel_endOf.2.1 88 = .ok (.iload 4, 2) := by decide +kernel
theorem d_TrustDeskModel_endOf_90 : decode kY_TrustDeskModel_endOf.2.1 90 = .ok (.iaload, 1) := by decide +kernel
theorem d_TrustDeskModel_endOf_91 : decode kY_TrustDeskModel_endOf.2.1 91 = .ok (.iaload, 1) := by decide +kernel
theorem d_TrustDeskModel_endOf_92 : decode kY_TrustDeskModel_endOf.2.1 92 = .ok (.ireturn, 1) := by decide +kernel
def w_TrustDeskModel_endOf_x : List Nat := [1300]
set_option maxHeartbeats 100000000 in theorem tc_TrustDeskModel_endOf_x {g : mj_G} {l : Launch} {d : Nat} {T0 : tm_H} {M0 : mj_M} {n0 x9 : Nat} {o0 : Nat} {x1 : Int32} {x2 : Int32} {x3 : Int32} (h_o0 : T0 o0 = some (0, 13, 0)) (yR : rI M0 o0) (I0 : tm_I tm_FT (tm_in w_TrustDeskModel_endOf_x) x9 T0 M0 n0 T0 M0 n0) : mj_Met g l kY_TrustDeskModel_endOf (d + 2) [.ref o0, .int x1, .int x2, .int x3] M0 n0 0 0 (tm_Q tm_FT (tm_in w_TrustDeskModel_endOf_x) x9 T0 M0 n0 (fun r _ M => ∃ v : Int32, r = some (.int v) ∧ rI M o0)) := by
  refine mj_enter (by decide) (Nat.le_of_ble_eq_true rfl) ?_
  refine mv_aload_n d_TrustDeskModel_endOf_0 rfl rfl ?_
  refine mv_iconst (v := 0) d_TrustDeskModel_endOf_1 (by decide) ?_
  refine tr_putR (k := 0) I0 yR h_o0 rfl ⟨_, rfl⟩ (fun _ h => by cases h) rfl (fun lo hi h => by cases h) (Or.inl (by decide)) d_TrustDeskModel_endOf_2 p_TrustDeskModel_1_13 rfl rfl (fun M1 I2 q3 K4 R5 A6 V7 => ?_)
  refine mv_aload_n d_TrustDeskModel_endOf_5 rfl rfl ?_
  refine mv_iload_n d_TrustDeskModel_endOf_6 rfl rfl ?_
  refine mv_iload_n d_TrustDeskModel_endOf_7 rfl rfl ?_
  obtain ⟨_, b8, -⟩ := I2.1 _ _ h_o0
  refine mv_callV (kc1 := 0) (ks1 := 0) (kc' := 0) (ks' := 0) (As := [.int x1, .int x2]) (st9 := [.int x2, .int x1, .ref o0]) d_TrustDeskModel_endOf_8 lV_TrustDeskModel_455 b8 rfl (mj_enter (by decide) (Nat.le_of_ble_eq_true rfl) ?_) rfl (Nat.le_of_ble_eq_true rfl) (Nat.le_of_ble_eq_true rfl) (Nat.le_of_ble_eq_true rfl) (hst := rfl) (fun _ _ _ h => h)
  refine mv_aload_n d_TrustDeskModel_isEnd_0 rfl rfl ?_
  refine mv_iload_n d_TrustDeskModel_isEnd_1 rfl rfl ?_
  obtain ⟨_, b9, -⟩ := I2.1 _ _ h_o0
  refine mv_callV (kc1 := 0) (ks1 := 0) (kc' := 0) (ks' := 0) (As := [.int x1]) (st9 := [.int x1, .ref o0]) d_TrustDeskModel_isEnd_2 lV_TrustDeskModel_418 b9 rfl (mj_enter (by decide) (Nat.le_of_ble_eq_true rfl) ?_) rfl (Nat.le_of_ble_eq_true rfl) (Nat.le_of_ble_eq_true rfl) (Nat.le_of_ble_eq_true rfl) (hst := rfl) (fun _ _ _ h => h)
  refine mv_iload_n d_TrustDeskModel_isFund_0 rfl rfl ?_
  have := mz_hi x1
  refine mv_if_ltZ (tgt := 16) (a := x1.toInt) d_TrustDeskModel_isFund_1 (by decide) rfl (fun b10 => ?_) (fun b10 => ?_)
  · refine mv_iconst (v := 0) d_TrustDeskModel_isFund_16 (by decide) ?_
    refine mv_iret d_TrustDeskModel_isFund_17 rfl (by decide) ?_
    refine mv_if_eq_t (tgt := 26) d_TrustDeskModel_isEnd_5 (by decide) (by decide) ?_
    refine mv_iconst (v := 0) d_TrustDeskModel_isEnd_26 (by decide) ?_
    refine mv_iret d_TrustDeskModel_isEnd_27 rfl (by decide) ?_
    refine mv_if_ne_f (tgt := 16) d_TrustDeskModel_endOf_11 (by decide) (by decide) ?_
    refine mv_iconst (v := (-1)) d_TrustDeskModel_endOf_14 (by decide) ?_
    exact mv_iret d_TrustDeskModel_endOf_15 rfl (by first | rfl | decide) ⟨_, I2, _, rfl, R5⟩
  · refine mv_iload_n d_TrustDeskModel_isFund_4 rfl rfl ?_
    refine mv_aload_n d_TrustDeskModel_isFund_5 rfl rfl ?_
    obtain ⟨v12, q11⟩ := tm_atI I2 h_o0 (k := 32) rfl
    refine tr_getK q11 d_TrustDeskModel_isFund_6 f_TrustDeskModel_415_13 ?_
    have := R5.f (k := 32) q11 rfl
    have := mz_hi x1
    have := mz_hi v12
    refine mv_icmp_geZ (tgt := 16) (a := x1.toInt) (b := v12.toInt) d_TrustDeskModel_isFund_9 (by decide) rfl rfl (fun b13 => ?_) (fun b13 => ?_)
    · refine mv_iconst (v := 0) d_TrustDeskModel_isFund_16 (by decide) ?_
      refine mv_iret d_TrustDeskModel_isFund_17 rfl (by decide) ?_
      refine mv_if_eq_t (tgt := 26) d_TrustDeskModel_isEnd_5 (by decide) (by decide) ?_
      refine mv_iconst (v := 0) d_TrustDeskModel_isEnd_26 (by decide) ?_
      refine mv_iret d_TrustDeskModel_isEnd_27 rfl (by decide) ?_
      refine mv_if_ne_f (tgt := 16) d_TrustDeskModel_endOf_11 (by decide) (by decide) ?_
      refine mv_iconst (v := (-1)) d_TrustDeskModel_endOf_14 (by decide) ?_
      exact mv_iret d_TrustDeskModel_endOf_15 rfl (by first | rfl | decide) ⟨_, I2, _, rfl, R5⟩
    · refine mv_iconst (v := 1) d_TrustDeskModel_isFund_12 (by decide) ?_
      refine mv_goto (tgt := 17) d_TrustDeskModel_isFund_13 (by decide) ?_
      refine mv_iret d_TrustDeskModel_isFund_17 rfl (by decide) ?_
      refine mv_if_eq_f (tgt := 26) d_TrustDeskModel_isEnd_5 (by decide) (by decide) ?_
      refine mv_iload_n d_TrustDeskModel_isEnd_8 rfl rfl ?_
      have := mz_hi x2
      refine mv_if_ltZ (tgt := 26) (a := x2.toInt) d_TrustDeskModel_isEnd_9 (by decide) rfl (fun b14 => ?_) (fun b14 => ?_)
      · refine mv_iconst (v := 0) d_TrustDeskModel_isEnd_26 (by decide) ?_
        refine mv_iret d_TrustDeskModel_isEnd_27 rfl (by decide) ?_
        refine mv_if_ne_f (tgt := 16) d_TrustDeskModel_endOf_11 (by decide) (by decide) ?_
        refine mv_iconst (v := (-1)) d_TrustDeskModel_endOf_14 (by decide) ?_
        exact mv_iret d_TrustDeskModel_endOf_15 rfl (by first | rfl | decide) ⟨_, I2, _, rfl, R5⟩
      · refine mv_iload_n d_TrustDeskModel_isEnd_12 rfl rfl ?_
        refine mv_aload_n d_TrustDeskModel_isEnd_13 rfl rfl ?_
        obtain ⟨a16, q15, t_a16⟩ := tm_atR I2 h_o0 (k := 43) rfl
        refine tr_getK q15 d_TrustDeskModel_isEnd_14 f_TrustDeskModel_98_13 ?_
        refine mv_iload_n d_TrustDeskModel_isEnd_17 rfl rfl ?_
        refine tr_ialdR (o := o0) (k := 43) I2 q15 t_a16 (by decide) d_TrustDeskModel_isEnd_18 (vp_in_iff.mpr (by omega)) (fun v17 e18 => ?_)
        have := R5.a (k := 43) rfl (x1 : Int32).toNatClampNeg
        have := mz_hi x2
        have := mz_hi v17
        refine mv_icmp_geZ (tgt := 26) (a := x2.toInt) (b := v17.toInt) d_TrustDeskModel_isEnd_19 (by decide) rfl rfl (fun b19 => ?_) (fun b19 => ?_)
        · refine mv_iconst (v := 0) d_TrustDeskModel_isEnd_26 (by decide) ?_
          refine mv_iret d_TrustDeskModel_isEnd_27 rfl (by decide) ?_
          refine mv_if_ne_f (tgt := 16) d_TrustDeskModel_endOf_11 (by decide) (by decide) ?_
          refine mv_iconst (v := (-1)) d_TrustDeskModel_endOf_14 (by decide) ?_
          exact mv_iret d_TrustDeskModel_endOf_15 rfl (by first | rfl | decide) ⟨_, I2, _, rfl, R5⟩
        · refine mv_iconst (v := 1) d_TrustDeskModel_isEnd_22 (by decide) ?_
          refine mv_goto (tgt := 27) d_TrustDeskModel_isEnd_23 (by decide) ?_
          refine mv_iret d_TrustDeskModel_isEnd_27 rfl (by decide) ?_
          refine mv_if_ne_t (tgt := 16) d_TrustDeskModel_endOf_11 (by decide) (by decide) ?_
          refine mv_bipush (v := 80) d_TrustDeskModel_endOf_16 (by decide) ?_
          refine mv_iload_n d_TrustDeskModel_endOf_18 rfl rfl ?_
          refine mv_imul d_TrustDeskModel_endOf_19 ?_
          refine mv_iload_n d_TrustDeskModel_endOf_20 rfl rfl ?_
          refine mv_iadd d_TrustDeskModel_endOf_21 ?_
          refine mv_istore (lv' := [(4, .int ((80 * x1) + x2)), (0, .ref o0), (1, .int x1), (2, .int x2), (3, .int x3)]) d_TrustDeskModel_endOf_22 (by decide) rfl ?_
          refine mv_iload_n d_TrustDeskModel_endOf_24 rfl rfl ?_
          rcases (show (x3.toInt < 0 ∨ 3 < x3.toInt) ∨ x3.toInt = 0 ∨ x3.toInt = 1 ∨ x3.toInt = 2 ∨ x3.toInt = 3 by omega) with b20 | b20 | b20 | b20 | b20
          · refine mv_tableOut (tgt := 93) d_TrustDeskModel_endOf_25 b20 (by decide) ?_
            refine mv_iconst (v := (-1)) d_TrustDeskModel_endOf_93 (by decide) ?_
            exact mv_iret d_TrustDeskModel_endOf_94 rfl (by first | rfl | decide) ⟨_, I2, _, rfl, R5⟩
          · refine mv_tableIn (tgt := 56) (off := 31) d_TrustDeskModel_endOf_25 (by omega) (by omega) (by rw [b20]; rfl) (by decide) ?_
            refine mv_aload_n d_TrustDeskModel_endOf_56 rfl rfl ?_
            obtain ⟨a22, q21, t_a22⟩ := tm_atR I2 h_o0 (k := 46) rfl
            refine tr_getK q21 d_TrustDeskModel_endOf_57 f_TrustDeskModel_107_13 ?_
            refine mv_iload d_TrustDeskModel_endOf_60 rfl ?_
            have b23 : (80 * x1 : Int32).toInt = (80 * x1.toInt) := mz_mul2 (by decide) rfl (by omega) (by omega)
            have b24 : ((80 * x1) + x2 : Int32).toInt = ((80 * x1.toInt) + x2.toInt) := mz_add2 b23 rfl (by omega) (by omega)
            refine tr_ialdR (o := o0) (k := 46) I2 q21 t_a22 (by decide) d_TrustDeskModel_endOf_62 (vp_in_iff.mpr (by omega)) (fun v25 e26 => ?_)
            exact mv_iret d_TrustDeskModel_endOf_63 rfl (by first | rfl | decide) ⟨_, I2, _, rfl, R5⟩
          · refine mv_tableIn (tgt := 64) (off := 39) d_TrustDeskModel_endOf_25 (by omega) (by omega) (by rw [b20]; rfl) (by decide) ?_
            refine mv_aload_n d_TrustDeskModel_endOf_64 rfl rfl ?_
            obtain ⟨a28, q27, t_a28⟩ := tm_atR I2 h_o0 (k := 47) rfl
            refine tr_getK q27 d_TrustDeskModel_endOf_65 f_TrustDeskModel_110_13 ?_
            refine mv_iload d_TrustDeskModel_endOf_68 rfl ?_
            have b29 : (80 * x1 : Int32).toInt = (80 * x1.toInt) := mz_mul2 (by decide) rfl (by omega) (by omega)
            have b30 : ((80 * x1) + x2 : Int32).toInt = ((80 * x1.toInt) + x2.toInt) := mz_add2 b29 rfl (by omega) (by omega)
            refine tr_ialdR (o := o0) (k := 47) I2 q27 t_a28 (by decide) d_TrustDeskModel_endOf_70 (vp_in_iff.mpr (by omega)) (fun v31 e32 => ?_)
            exact mv_iret d_TrustDeskModel_endOf_71 rfl (by first | rfl | decide) ⟨_, I2, _, rfl, R5⟩
          · refine mv_tableIn (tgt := 72) (off := 47) d_TrustDeskModel_endOf_25 (by omega) (by omega) (by rw [b20]; rfl) (by decide) ?_
            refine mv_aload_n d_TrustDeskModel_endOf_72 rfl rfl ?_
            obtain ⟨a34, q33, t_a34⟩ := tm_atR I2 h_o0 (k := 48) rfl
            refine tr_getK q33 d_TrustDeskModel_endOf_73 f_TrustDeskModel_113_13 ?_
            refine mv_iload d_TrustDeskModel_endOf_76 rfl ?_
            have b35 : (80 * x1 : Int32).toInt = (80 * x1.toInt) := mz_mul2 (by decide) rfl (by omega) (by omega)
            have b36 : ((80 * x1) + x2 : Int32).toInt = ((80 * x1.toInt) + x2.toInt) := mz_add2 b35 rfl (by omega) (by omega)
            refine tr_ialdR (o := o0) (k := 48) I2 q33 t_a34 (by decide) d_TrustDeskModel_endOf_78 (vp_in_iff.mpr (by omega)) (fun v37 e38 => ?_)
            exact mv_iret d_TrustDeskModel_endOf_79 rfl (by first | rfl | decide) ⟨_, I2, _, rfl, R5⟩
          · refine mv_tableIn (tgt := 80) (off := 55) d_TrustDeskModel_endOf_25 (by omega) (by omega) (by rw [b20]; rfl) (by decide) ?_
            refine mv_aload_n d_TrustDeskModel_endOf_80 rfl rfl ?_
            obtain ⟨a40, q39, t_a40⟩ := tm_atR I2 h_o0 (k := 8) rfl
            refine tr_getK q39 d_TrustDeskModel_endOf_81 f_TrustDeskModel_29_13 ?_
            refine mv_aload_n d_TrustDeskModel_endOf_84 rfl rfl ?_
            obtain ⟨a42, q41, t_a42⟩ := tm_atR I2 h_o0 (k := 45) rfl
            refine tr_getK q41 d_TrustDeskModel_endOf_85 f_TrustDeskModel_104_13 ?_
            refine mv_iload d_TrustDeskModel_endOf_88 rfl ?_
            have b43 : (80 * x1 : Int32).toInt = (80 * x1.toInt) := mz_mul2 (by decide) rfl (by omega) (by omega)
            have b44 : ((80 * x1) + x2 : Int32).toInt = ((80 * x1.toInt) + x2.toInt) := mz_add2 b43 rfl (by omega) (by omega)
            refine tr_ialdR (o := o0) (k := 45) I2 q41 t_a42 (by decide) d_TrustDeskModel_endOf_90 (vp_in_iff.mpr (by omega)) (fun v45 e46 => ?_)
            have := R5.a (k := 45) rfl (((80 * x1) + x2) : Int32).toNatClampNeg
            refine tr_ialdR (o := o0) (k := 8) I2 q39 t_a40 (by decide) d_TrustDeskModel_endOf_91 (vp_in_iff.mpr (by omega)) (fun v47 e48 => ?_)
            have := R5.a (k := 8) rfl (v45 : Int32).toNatClampNeg
            exact mv_iret d_TrustDeskModel_endOf_92 rfl (by first | rfl | decide) ⟨_, I2, _, rfl, R5⟩
abbrev kY_TrustDeskModel_factOf : mj_Y := (⟨"TrustDeskModel", "factOf", "(III)I"⟩, prog_14_method_10_code, 4, (Option.some Jvm.ClassFile.FieldType.int))
theorem d_TrustDeskModel_factOf_0 : decode kY_TrustDeskModel_factOf.2.1 0 = .ok (.aload_n 0, 1) := by decide +kernel
theorem d_TrustDeskModel_factOf_1 : decode kY_TrustDeskModel_factOf.2.1 1 = .ok (.iconst 0, 1) := by decide +kernel
theorem d_TrustDeskModel_factOf_2 : decode kY_TrustDeskModel_factOf.2.1 2 = .ok (.putfield 1, 3) := by decide +kernel
theorem d_TrustDeskModel_factOf_5 : decode kY_TrustDeskModel_factOf.2.1 5 = .ok (.iload_n 1, 1) := by decide +kernel
theorem d_TrustDeskModel_factOf_6 : decode kY_TrustDeskModel_factOf.2.1 6 = .ok (.i2l, 1) := by decide +kernel
theorem d_TrustDeskModel_factOf_7 : decode kY_TrustDeskModel_factOf.2.1 7 = .ok (.lconst 0, 1) := by decide +kernel
theorem d_TrustDeskModel_factOf_8 : decode kY_TrustDeskModel_factOf.2.1 8 = .ok (.ldc2_w 167, 3) := by decide +kernel
theorem k_TrustDeskModel_167 : Cond.constantLong "TrustDeskModel" 167 7 ∈ mj_T := (mj_in1 (List.mem_of_getElem? (i := 1607) (by decide +kernel)) rfl)
theorem d_TrustDeskModel_factOf_11 : decode kY_TrustDeskModel_factOf.2.1 11 = .ok (.invokestatic 169, 3) := by decide +kernel
theorem d_TrustDeskModel_factOf_14 : decode kY_TrustDeskModel_factOf.2.1 14 = .ok (.ifCond .eq 28, 3) := by decide +kernel
theorem d_TrustDeskModel_factOf_42 : decode kY_TrustDeskModel_factOf.2.1 42 = .ok (.iconst (-1), 1) := by decide +kernel
theorem d_TrustDeskModel_factOf_43 : decode kY_TrustDeskModel_factOf.2.1 43 = .ok (.ireturn, 1) := by decide +kernel
theorem d_TrustDeskModel_factOf_17 : decode kY_TrustDeskModel_factOf.2.1 17 = .ok (.iload_n 2, 1) := by decide +kernel
theorem d_TrustDeskModel_factOf_18 : decode kY_TrustDeskModel_factOf.2.1 18 = .ok (.invokestatic 173, 3) := by decide +kernel
theorem d_TrustDeskModel_factOf_21 : decode kY_TrustDeskModel_factOf.2.1 21 = .ok (.ifCond .eq 21, 3) := by decide +kernel
theorem d_TrustDeskModel_factOf_24 : decode kY_TrustDeskModel_factOf.2.1 24 = .ok (.aload_n 0, 1) := by decide +kernel
theorem d_TrustDeskModel_factOf_25 : decode kY_TrustDeskModel_factOf.2.1 25 = .ok (.iload_n 3, 1) := by decide +kernel
theorem d_TrustDeskModel_factOf_26 : decode kY_TrustDeskModel_factOf.2.1 26 = .ok (.invokevirtual 182, 3) := by decide +kernel
theorem d_TrustDeskModel_factOf_29 : decode kY_TrustDeskModel_factOf.2.1 29 = .ok (.ifCond .eq 13, 3) := by decide +kernel
theorem d_TrustDeskModel_factOf_32 : decode kY_TrustDeskModel_factOf.2.1 32 = .ok (.aload_n 0, 1) := by decide +kernel
theorem d_TrustDeskModel_factOf_33 : decode kY_TrustDeskModel_factOf.2.1 33 = .ok (.iload_n 1, 1) := by decide +kernel
theorem d_TrustDeskModel_factOf_34 : decode kY_TrustDeskModel_factOf.2.1 34 = .ok (.iload_n 2, 1) := by decide +kernel
theorem d_TrustDeskModel_factOf_35 : decode kY_TrustDeskModel_factOf.2.1 35 = .ok (.iload_n 3, 1) := by decide +kernel
theorem d_TrustDeskModel_factOf_36 : decode kY_TrustDeskModel_factOf.2.1 36 = .ok (.invokevirtual 185, 3) := by decide +kernel
theorem d_TrustDeskModel_factOf_39 : decode kY_TrustDeskModel_factOf.2.1 39 = .ok (.goto 4, 3) := by decide +kernel
def w_TrustDeskModel_factOf_x : List Nat := [1300]
set_option maxHeartbeats 100000000 in theorem tc_TrustDeskModel_factOf_x {g : mj_G} {l : Launch} {d : Nat} {T0 : tm_H} {M0 : mj_M} {n0 x9 : Nat} {o0 : Nat} {x1 : Int32} {x2 : Int32} {x3 : Int32} (h_o0 : T0 o0 = some (0, 13, 0)) (yR : rI M0 o0) (I0 : tm_I tm_FT (tm_in w_TrustDeskModel_factOf_x) x9 T0 M0 n0 T0 M0 n0) : mj_Met g l kY_TrustDeskModel_factOf (d + 1) [.ref o0, .int x1, .int x2, .int x3] M0 n0 0 0 (tm_Q tm_FT (tm_in w_TrustDeskModel_factOf_x) x9 T0 M0 n0 (fun r _ M => ∃ v : Int32, r = some (.int v) ∧ rI M o0)) := by
  refine mj_enter (by decide) (Nat.le_of_ble_eq_true rfl) ?_
  refine mv_aload_n d_TrustDeskModel_factOf_0 rfl rfl ?_
  refine mv_iconst (v := 0) d_TrustDeskModel_factOf_1 (by decide) ?_
  refine tr_putR (k := 0) I0 yR h_o0 rfl ⟨_, rfl⟩ (fun _ h => by cases h) rfl (fun lo hi h => by cases h) (Or.inl (by decide)) d_TrustDeskModel_factOf_2 p_TrustDeskModel_1_13 rfl rfl (fun M1 I2 q3 K4 R5 A6 V7 => ?_)
  refine mv_iload_n d_TrustDeskModel_factOf_5 rfl rfl ?_
  refine mv_i2l (v := x1.toInt64) d_TrustDeskModel_factOf_6 rfl ?_
  refine mv_lconst (v := 0) d_TrustDeskModel_factOf_7 (by decide) ?_
  refine mv_ldc2 d_TrustDeskModel_factOf_8 k_TrustDeskModel_167 ?_
  refine mv_callS (kc1 := 0) (ks1 := 0) (kc' := 0) (ks' := 0) (As := [.long x1.toInt64, .long 0, .long 7]) (st9 := [.long 7, .long 0, .long x1.toInt64]) d_TrustDeskModel_factOf_11 lS_TrustDeskModel_169 (mj_enter (by decide) (Nat.le_of_ble_eq_true rfl) ?_) rfl (Nat.le_of_ble_eq_true rfl) (Nat.le_of_ble_eq_true rfl) (Nat.le_of_ble_eq_true rfl) (hst := rfl) (fun _ _ _ h => h)
  refine mv_lload_n d_TrustDeskModel_within_0 rfl rfl ?_
  refine mv_lload_n d_TrustDeskModel_within_1 rfl rfl ?_
  refine mv_lltZ (tgt := 17) (a := x1.toInt) (b := 0) d_TrustDeskModel_within_2 d_TrustDeskModel_within_3 (by decide) (mz_wide _) (by decide) (fun b8 => ?_) (fun b8 => ?_)
  · refine mv_iconst (v := 0) d_TrustDeskModel_within_17 (by decide) ?_
    refine mv_iret d_TrustDeskModel_within_18 rfl (by decide) ?_
    refine mv_if_eq_t (tgt := 42) d_TrustDeskModel_factOf_14 (by decide) (by decide) ?_
    refine mv_iconst (v := (-1)) d_TrustDeskModel_factOf_42 (by decide) ?_
    exact mv_iret d_TrustDeskModel_factOf_43 rfl (by first | rfl | decide) ⟨_, I2, _, rfl, R5⟩
  · refine mv_lload_n d_TrustDeskModel_within_6 rfl rfl ?_
    refine mv_lload d_TrustDeskModel_within_7 rfl ?_
    refine mv_lgtZ (tgt := 17) (a := x1.toInt) (b := 7) d_TrustDeskModel_within_9 d_TrustDeskModel_within_10 (by decide) (mz_wide _) (by decide) (fun b9 => ?_) (fun b9 => ?_)
    · refine mv_iconst (v := 0) d_TrustDeskModel_within_17 (by decide) ?_
      refine mv_iret d_TrustDeskModel_within_18 rfl (by decide) ?_
      refine mv_if_eq_t (tgt := 42) d_TrustDeskModel_factOf_14 (by decide) (by decide) ?_
      refine mv_iconst (v := (-1)) d_TrustDeskModel_factOf_42 (by decide) ?_
      exact mv_iret d_TrustDeskModel_factOf_43 rfl (by first | rfl | decide) ⟨_, I2, _, rfl, R5⟩
    · refine mv_iconst (v := 1) d_TrustDeskModel_within_13 (by decide) ?_
      refine mv_goto (tgt := 18) d_TrustDeskModel_within_14 (by decide) ?_
      refine mv_iret d_TrustDeskModel_within_18 rfl (by decide) ?_
      refine mv_if_eq_f (tgt := 42) d_TrustDeskModel_factOf_14 (by decide) (by decide) ?_
      refine mv_iload_n d_TrustDeskModel_factOf_17 rfl rfl ?_
      refine mv_callS (kc1 := 0) (ks1 := 0) (kc' := 0) (ks' := 0) (As := [.int x2]) (st9 := [.int x2]) d_TrustDeskModel_factOf_18 lS_TrustDeskModel_173 (mj_enter (by decide) (Nat.le_of_ble_eq_true rfl) ?_) rfl (Nat.le_of_ble_eq_true rfl) (Nat.le_of_ble_eq_true rfl) (Nat.le_of_ble_eq_true rfl) (hst := rfl) (fun _ _ _ h => h)
      refine mv_iload_n d_TrustDeskModel_isYear_0 rfl rfl ?_
      have := mz_hi x2
      refine mv_if_ltZ (tgt := 14) (a := x2.toInt) d_TrustDeskModel_isYear_1 (by decide) rfl (fun b10 => ?_) (fun b10 => ?_)
      · refine mv_iconst (v := 0) d_TrustDeskModel_isYear_14 (by decide) ?_
        refine mv_iret d_TrustDeskModel_isYear_15 rfl (by decide) ?_
        refine mv_if_eq_t (tgt := 42) d_TrustDeskModel_factOf_21 (by decide) (by decide) ?_
        refine mv_iconst (v := (-1)) d_TrustDeskModel_factOf_42 (by decide) ?_
        exact mv_iret d_TrustDeskModel_factOf_43 rfl (by first | rfl | decide) ⟨_, I2, _, rfl, R5⟩
      · refine mv_iload_n d_TrustDeskModel_isYear_4 rfl rfl ?_
        refine mv_bipush (v := 100) d_TrustDeskModel_isYear_5 (by decide) ?_
        have := mz_hi x2
        refine mv_icmp_gtZ (tgt := 14) (a := x2.toInt) (b := 100) d_TrustDeskModel_isYear_7 (by decide) rfl (by decide) (fun b11 => ?_) (fun b11 => ?_)
        · refine mv_iconst (v := 0) d_TrustDeskModel_isYear_14 (by decide) ?_
          refine mv_iret d_TrustDeskModel_isYear_15 rfl (by decide) ?_
          refine mv_if_eq_t (tgt := 42) d_TrustDeskModel_factOf_21 (by decide) (by decide) ?_
          refine mv_iconst (v := (-1)) d_TrustDeskModel_factOf_42 (by decide) ?_
          exact mv_iret d_TrustDeskModel_factOf_43 rfl (by first | rfl | decide) ⟨_, I2, _, rfl, R5⟩
        · refine mv_iconst (v := 1) d_TrustDeskModel_isYear_10 (by decide) ?_
          refine mv_goto (tgt := 15) d_TrustDeskModel_isYear_11 (by decide) ?_
          refine mv_iret d_TrustDeskModel_isYear_15 rfl (by decide) ?_
          refine mv_if_eq_f (tgt := 42) d_TrustDeskModel_factOf_21 (by decide) (by decide) ?_
          refine mv_aload_n d_TrustDeskModel_factOf_24 rfl rfl ?_
          refine mv_iload_n d_TrustDeskModel_factOf_25 rfl rfl ?_
          obtain ⟨_, b12, -⟩ := I2.1 _ _ h_o0
          refine mv_callV (kc1 := 0) (ks1 := 0) (kc' := 0) (ks' := 0) (As := [.int x3]) (st9 := [.int x3, .ref o0]) d_TrustDeskModel_factOf_26 lV_TrustDeskModel_182 b12 rfl (mj_enter (by decide) (Nat.le_of_ble_eq_true rfl) ?_) rfl (Nat.le_of_ble_eq_true rfl) (Nat.le_of_ble_eq_true rfl) (Nat.le_of_ble_eq_true rfl) (hst := rfl) (fun _ _ _ h => h)
          refine mv_iload_n d_TrustDeskModel_isKnown_0 rfl rfl ?_
          have := mz_hi x3
          refine mv_if_ltZ (tgt := 16) (a := x3.toInt) d_TrustDeskModel_isKnown_1 (by decide) rfl (fun b13 => ?_) (fun b13 => ?_)
          · refine mv_iconst (v := 0) d_TrustDeskModel_isKnown_16 (by decide) ?_
            refine mv_iret d_TrustDeskModel_isKnown_17 rfl (by decide) ?_
            refine mv_if_eq_t (tgt := 42) d_TrustDeskModel_factOf_29 (by decide) (by decide) ?_
            refine mv_iconst (v := (-1)) d_TrustDeskModel_factOf_42 (by decide) ?_
            exact mv_iret d_TrustDeskModel_factOf_43 rfl (by first | rfl | decide) ⟨_, I2, _, rfl, R5⟩
          · refine mv_iload_n d_TrustDeskModel_isKnown_4 rfl rfl ?_
            refine mv_aload_n d_TrustDeskModel_isKnown_5 rfl rfl ?_
            obtain ⟨v15, q14⟩ := tm_atI I2 h_o0 (k := 1) rfl
            refine tr_getK q14 d_TrustDeskModel_isKnown_6 f_TrustDeskModel_164_13 ?_
            have := R5.f (k := 1) q14 rfl
            have := mz_hi x3
            have := mz_hi v15
            refine mv_icmp_gtZ (tgt := 16) (a := x3.toInt) (b := v15.toInt) d_TrustDeskModel_isKnown_9 (by decide) rfl rfl (fun b16 => ?_) (fun b16 => ?_)
            · refine mv_iconst (v := 0) d_TrustDeskModel_isKnown_16 (by decide) ?_
              refine mv_iret d_TrustDeskModel_isKnown_17 rfl (by decide) ?_
              refine mv_if_eq_t (tgt := 42) d_TrustDeskModel_factOf_29 (by decide) (by decide) ?_
              refine mv_iconst (v := (-1)) d_TrustDeskModel_factOf_42 (by decide) ?_
              exact mv_iret d_TrustDeskModel_factOf_43 rfl (by first | rfl | decide) ⟨_, I2, _, rfl, R5⟩
            · refine mv_iconst (v := 1) d_TrustDeskModel_isKnown_12 (by decide) ?_
              refine mv_goto (tgt := 17) d_TrustDeskModel_isKnown_13 (by decide) ?_
              refine mv_iret d_TrustDeskModel_isKnown_17 rfl (by decide) ?_
              refine mv_if_eq_f (tgt := 42) d_TrustDeskModel_factOf_29 (by decide) (by decide) ?_
              refine mv_aload_n d_TrustDeskModel_factOf_32 rfl rfl ?_
              refine mv_iload_n d_TrustDeskModel_factOf_33 rfl rfl ?_
              refine mv_iload_n d_TrustDeskModel_factOf_34 rfl rfl ?_
              refine mv_iload_n d_TrustDeskModel_factOf_35 rfl rfl ?_
              obtain ⟨_, b23, -⟩ := I2.1 _ _ h_o0
              refine mv_callV (kc' := 0) (ks' := 0) (As := [.int x1, .int x2, .int x3]) (st9 := [.int x3, .int x2, .int x1, .ref o0]) d_TrustDeskModel_factOf_36 lV_TrustDeskModel_185 b23 rfl (tc_TrustDeskModel_factAt_x (d := d) (x9 := x9) (o0 := o0) (x1 := x1) (x2 := x2) (x3 := x3) h_o0 R5 I2.start) rfl (Nat.le_of_ble_eq_true rfl) (Nat.le_of_ble_eq_true rfl) (Nat.le_of_ble_eq_true rfl) (hst := rfl) (fun b17r M18 n19 b17 => ?_)
              obtain ⟨T20, J21, v24, rfl, R25, f26⟩ := b17
              have I22 := I2.call J21 (tm_sub (by decide)) (Or.inl rfl)
              have t27 := J21.up h_o0
              have q28 := J21.keep h_o0 (by decide) q3
              have q29 := J21.keep h_o0 (by decide) q14
              refine mv_goto (tgt := 43) d_TrustDeskModel_factOf_39 (by decide) ?_
              exact mv_iret d_TrustDeskModel_factOf_43 rfl (by first | rfl | decide) ⟨_, I22, _, rfl, R25⟩
abbrev kY_TrustDeskModel_fact : mj_Y := (⟨"TrustDeskModel", "fact", "(III)Z"⟩, prog_14_method_8_code, 4, (Option.some Jvm.ClassFile.FieldType.boolean))
theorem d_TrustDeskModel_fact_0 : decode kY_TrustDeskModel_fact.2.1 0 = .ok (.aload_n 0, 1) := by decide +kernel
theorem d_TrustDeskModel_fact_1 : decode kY_TrustDeskModel_fact.2.1 1 = .ok (.iconst 0, 1) := by decide +kernel
theorem d_TrustDeskModel_fact_2 : decode kY_TrustDeskModel_fact.2.1 2 = .ok (.putfield 1, 3) := by decide +kernel
theorem d_TrustDeskModel_fact_5 : decode kY_TrustDeskModel_fact.2.1 5 = .ok (.iload_n 1, 1) := by decide +kernel
theorem d_TrustDeskModel_fact_6 : decode kY_TrustDeskModel_fact.2.1 6 = .ok (.i2l, 1) := by decide +kernel
theorem d_TrustDeskModel_fact_7 : decode kY_TrustDeskModel_fact.2.1 7 = .ok (.lconst 0, 1) := by decide +kernel
theorem d_TrustDeskModel_fact_8 : decode kY_TrustDeskModel_fact.2.1 8 = .ok (.ldc2_w 167, 3) := by decide +kernel
theorem d_TrustDeskModel_fact_11 : decode kY_TrustDeskModel_fact.2.1 11 = .ok (.invokestatic 169, 3) := by decide +kernel
theorem d_TrustDeskModel_fact_14 : decode kY_TrustDeskModel_fact.2.1 14 = .ok (.ifCond .eq 32, 3) := by decide +kernel
theorem d_TrustDeskModel_fact_46 : decode kY_TrustDeskModel_fact.2.1 46 = .ok (.iconst 0, 1) := by decide +kernel
theorem d_TrustDeskModel_fact_47 : decode kY_TrustDeskModel_fact.2.1 47 = .ok (.ireturn, 1) := by decide +kernel
theorem d_TrustDeskModel_fact_17 : decode kY_TrustDeskModel_fact.2.1 17 = .ok (.iload_n 2, 1) := by decide +kernel
theorem d_TrustDeskModel_fact_18 : decode kY_TrustDeskModel_fact.2.1 18 = .ok (.invokestatic 173, 3) := by decide +kernel
theorem d_TrustDeskModel_fact_21 : decode kY_TrustDeskModel_fact.2.1 21 = .ok (.ifCond .eq 25, 3) := by decide +kernel
theorem d_TrustDeskModel_fact_24 : decode kY_TrustDeskModel_fact.2.1 24 = .ok (.iload_n 3, 1) := by decide +kernel
theorem d_TrustDeskModel_fact_25 : decode kY_TrustDeskModel_fact.2.1 25 = .ok (.i2l, 1) := by decide +kernel
theorem d_TrustDeskModel_fact_26 : decode kY_TrustDeskModel_fact.2.1 26 = .ok (.lconst 0, 1) := by decide +kernel
theorem d_TrustDeskModel_fact_27 : decode kY_TrustDeskModel_fact.2.1 27 = .ok (.ldc2_w 177, 3) := by decide +kernel
theorem k_TrustDeskModel_177 : Cond.constantLong "TrustDeskModel" 177 9999 ∈ mj_T := (mj_in1 (List.mem_of_getElem? (i := 1614) (by decide +kernel)) rfl)
theorem d_TrustDeskModel_fact_30 : decode kY_TrustDeskModel_fact.2.1 30 = .ok (.invokestatic 169, 3) := by decide +kernel
theorem d_TrustDeskModel_fact_33 : decode kY_TrustDeskModel_fact.2.1 33 = .ok (.ifCond .eq 13, 3) := by decide +kernel
theorem d_TrustDeskModel_fact_36 : decode kY_TrustDeskModel_fact.2.1 36 = .ok (.aload_n 0, 1) := by decide +kernel
theorem d_TrustDeskModel_fact_37 : decode kY_TrustDeskModel_fact.2.1 37 = .ok (.getfield 179, 3) := by decide +kernel
theorem d_TrustDeskModel_fact_40 : decode kY_TrustDeskModel_fact.2.1 40 = .ok (.sipush 300, 3) := by decide +kernel
theorem d_TrustDeskModel_fact_43 : decode kY_TrustDeskModel_fact.2.1 43 = .ok (.if_icmp .ne 5, 3) := by decide +kernel
theorem d_TrustDeskModel_fact_48 : decode kY_TrustDeskModel_fact.2.1 48 = .ok (.aload_n 0, 1) := by decide +kernel
theorem d_TrustDeskModel_fact_49 : decode kY_TrustDeskModel_fact.2.1 49 = .ok (.getfield 13, 3) := by decide +kernel
theorem d_TrustDeskModel_fact_52 : decode kY_TrustDeskModel_fact.2.1 52 = .ok (.iconst 4, 1) := by decide +kernel
theorem d_TrustDeskModel_fact_53 : decode kY_TrustDeskModel_fact.2.1 53 = .ok (.aload_n 0, 1) := by decide +kernel
theorem d_TrustDeskModel_fact_54 : decode kY_TrustDeskModel_fact.2.1 54 = .ok (.getfield 179, 3) := by decide +kernel
theorem d_TrustDeskModel_fact_57 : decode kY_TrustDeskModel_fact.2.1 57 = .ok (.imul, 1) := by decide +kernel
theorem d_TrustDeskModel_fact_58 : decode kY_TrustDeskModel_fact.2.1 58 = .ok (.iload_n 1, 1) := by decide +kernel
theorem d_TrustDeskModel_fact_59 : decode kY_TrustDeskModel_fact.2.1 59 = .ok (.iastore, 1) := by decide +kernel
theorem d_TrustDeskModel_fact_60 : decode kY_TrustDeskModel_fact.2.1 60 = .ok (.aload_n 0, 1) := by decide +kernel
theorem d_TrustDeskModel_fact_61 : decode kY_TrustDeskModel_fact.2.1 61 = .ok (.getfield 13, 3) := by decide +kernel
theorem d_TrustDeskModel_fact_64 : decode kY_TrustDeskModel_fact.2.1 64 = .ok (.iconst 4, 1) := by decide +kernel
theorem d_TrustDeskModel_fact_65 : decode kY_TrustDeskModel_fact.2.1 65 = .ok (.aload_n 0, 1) := by decide +kernel
theorem d_TrustDeskModel_fact_66 : decode kY_TrustDeskModel_fact.2.1 66 = .ok (.getfield 179, 3) := by decide +kernel
theorem d_TrustDeskModel_fact_69 : decode kY_TrustDeskModel_fact.2.1 69 = .ok (.imul, 1) := by decide +kernel
theorem d_TrustDeskModel_fact_70 : decode kY_TrustDeskModel_fact.2.1 70 = .ok (.iconst 1, 1) := by decide +kernel
theorem d_TrustDeskModel_fact_71 : decode kY_TrustDeskModel_fact.2.1 71 = .ok (.iadd, 1) := by decide +kernel
theorem d_TrustDeskModel_fact_72 : decode kY_TrustDeskModel_fact.2.1 72 = .ok (.iload_n 2, 1) := by decide +kernel
theorem d_TrustDeskModel_fact_73 : decode kY_TrustDeskModel_fact.2.1 73 = .ok (.iastore, 1) := by decide +kernel
theorem d_TrustDeskModel_fact_74 : decode kY_TrustDeskModel_fact.2.1 74 = .ok (.aload_n 0, 1) := by decide +kernel
theorem d_TrustDeskModel_fact_75 : decode kY_TrustDeskModel_fact.2.1 75 = .ok (.getfield 13, 3) := by decide +kernel
theorem d_TrustDeskModel_fact_78 : decode kY_TrustDeskModel_fact.2.1 78 = .ok (.iconst 4, 1) := by decide +kernel
theorem d_TrustDeskModel_fact_79 : decode kY_TrustDeskModel_fact.2.1 79 = .ok (.aload_n 0, 1) := by decide +kernel
theorem d_TrustDeskModel_fact_80 : decode kY_TrustDeskModel_fact.2.1 80 = .ok (.getfield 179, 3) := by decide +kernel
theorem d_TrustDeskModel_fact_83 : decode kY_TrustDeskModel_fact.2.1 83 = .ok (.imul, 1) := by decide +kernel
theorem d_TrustDeskModel_fact_84 : decode kY_TrustDeskModel_fact.2.1 84 = .ok (.iconst 2, 1) := by decide +kernel
theorem d_TrustDeskModel_fact_85 : decode kY_TrustDeskModel_fact.2.1 85 = .ok (.iadd, 1) := by decide +kernel
theorem d_TrustDeskModel_fact_86 : decode kY_TrustDeskModel_fact.2.1 86 = .ok (.iload_n 3, 1) := by decide +kernel
theorem d_TrustDeskModel_fact_87 : decode kY_TrustDeskModel_fact.2.1 87 = .ok (.iastore, 1) := by decide +kernel
theorem d_TrustDeskModel_fact_88 : decode kY_TrustDeskModel_fact.2.1 88 = .ok (.aload_n 0, 1) := by decide +kernel
theorem d_TrustDeskModel_fact_89 : decode kY_TrustDeskModel_fact.2.1 89 = .ok (.getfield 13, 3) := by decide +kernel
theorem d_TrustDeskModel_fact_92 : decode kY_TrustDeskModel_fact.2.1 92 = .ok (.iconst 4, 1) := by decide +kernel
theorem d_TrustDeskModel_fact_93 : decode kY_TrustDeskModel_fact.2.1 93 = .ok (.aload_n 0, 1) := by decide +kernel
theorem d_TrustDeskModel_fact_94 : decode kY_TrustDeskModel_fact.2.1 94 = .ok (.getfield 179, 3) := by decide +kernel
theorem d_TrustDeskModel_fact_97 : decode kY_TrustDeskModel_fact.2.1 97 = .ok (.imul, 1) := by decide +kernel
theorem d_TrustDeskModel_fact_98 : decode kY_TrustDeskModel_fact.2.1 98 = .ok (.iconst 3, 1) := by decide +kernel
theorem d_TrustDeskModel_fact_99 : decode kY_TrustDeskModel_fact.2.1 99 = .ok (.iadd, 1) := by decide +kernel
theorem d_TrustDeskModel_fact_100 : decode kY_TrustDeskModel_fact.2.1 100 = .ok (.aload_n 0, 1) := by decide +kernel
theorem d_TrustDeskModel_fact_101 : decode kY_TrustDeskModel_fact.2.1 101 = .ok (.getfield 164, 3) := by decide +kernel
theorem d_TrustDeskModel_fact_104 : decode kY_TrustDeskModel_fact.2.1 104 = .ok (.iastore, 1) := by decide +kernel
theorem d_TrustDeskModel_fact_105 : decode kY_TrustDeskModel_fact.2.1 105 = .ok (.aload_n 0, 1) := by decide +kernel
theorem d_TrustDeskModel_fact_106 : decode kY_TrustDeskModel_fact.2.1 106 = .ok (.dup, 1) := by decide +kernel
theorem d_TrustDeskModel_fact_107 : decode kY_TrustDeskModel_fact.2.1 107 = .ok (.getfield 179, 3) := by decide +kernel
theorem d_TrustDeskModel_fact_110 : decode kY_TrustDeskModel_fact.2.1 110 = .ok (.iconst 1, 1) := by decide +kernel
theorem d_TrustDeskModel_fact_111 : decode kY_TrustDeskModel_fact.2.1 111 = .ok (.iadd, 1) := by decide +kernel
theorem d_TrustDeskModel_fact_112 : decode kY_TrustDeskModel_fact.2.1 112 = .ok (.putfield 179, 3) := by decide +kernel
theorem p_TrustDeskModel_179_13 : mj_fp "TrustDeskModel" 179 13 2 (kt_TrustDeskModel 2) false := ⟨kR_TrustDeskModel, kF_TrustDeskModel, 72, "TrustDeskModel", kt_TrustDeskModel, rfl, kg_13, by decide, (mj_in1 (List.mem_of_getElem? (i := 1388) (by decide +kernel)) rfl), Or.inl rfl, kto_TrustDeskModel, kn_TrustDeskModel, rfl, rfl, fun h => by cases h⟩
theorem d_TrustDeskModel_fact_115 : decode kY_TrustDeskModel_fact.2.1 115 = .ok (.iconst 1, 1) := by decide +kernel
theorem d_TrustDeskModel_fact_116 : decode kY_TrustDeskModel_fact.2.1 116 = .ok (.ireturn, 1) := by decide +kernel
def w_TrustDeskModel_fact_x : List Nat := [1300, 1302, 20003]
set_option maxHeartbeats 100000000 in theorem tc_TrustDeskModel_fact_x {g : mj_G} {l : Launch} {d : Nat} {T0 : tm_H} {M0 : mj_M} {n0 x9 : Nat} {o0 : Nat} {x1 : Int32} {x2 : Int32} {x3 : Int32} (h_o0 : T0 o0 = some (0, 13, 0)) (yR : rI M0 o0) (I0 : tm_I tm_FT (tm_in w_TrustDeskModel_fact_x) x9 T0 M0 n0 T0 M0 n0) : mj_Met g l kY_TrustDeskModel_fact (d + 1) [.ref o0, .int x1, .int x2, .int x3] M0 n0 0 0 (tm_Q tm_FT (tm_in w_TrustDeskModel_fact_x) x9 T0 M0 n0 (fun r _ M => ∃ v : Int32, r = some (.int v) ∧ 0 ≤ v.toInt ∧ v.toInt ≤ 1 ∧ rI M o0)) := by
  refine mj_enter (by decide) (Nat.le_of_ble_eq_true rfl) ?_
  refine mv_aload_n d_TrustDeskModel_fact_0 rfl rfl ?_
  refine mv_iconst (v := 0) d_TrustDeskModel_fact_1 (by decide) ?_
  refine tr_putR (k := 0) I0 yR h_o0 rfl ⟨_, rfl⟩ (fun _ h => by cases h) rfl (fun lo hi h => by cases h) (Or.inl (by decide)) d_TrustDeskModel_fact_2 p_TrustDeskModel_1_13 rfl rfl (fun M1 I2 q3 K4 R5 A6 V7 => ?_)
  refine mv_iload_n d_TrustDeskModel_fact_5 rfl rfl ?_
  refine mv_i2l (v := x1.toInt64) d_TrustDeskModel_fact_6 rfl ?_
  refine mv_lconst (v := 0) d_TrustDeskModel_fact_7 (by decide) ?_
  refine mv_ldc2 d_TrustDeskModel_fact_8 k_TrustDeskModel_167 ?_
  refine mv_callS (kc1 := 0) (ks1 := 0) (kc' := 0) (ks' := 0) (As := [.long x1.toInt64, .long 0, .long 7]) (st9 := [.long 7, .long 0, .long x1.toInt64]) d_TrustDeskModel_fact_11 lS_TrustDeskModel_169 (mj_enter (by decide) (Nat.le_of_ble_eq_true rfl) ?_) rfl (Nat.le_of_ble_eq_true rfl) (Nat.le_of_ble_eq_true rfl) (Nat.le_of_ble_eq_true rfl) (hst := rfl) (fun _ _ _ h => h)
  refine mv_lload_n d_TrustDeskModel_within_0 rfl rfl ?_
  refine mv_lload_n d_TrustDeskModel_within_1 rfl rfl ?_
  refine mv_lltZ (tgt := 17) (a := x1.toInt) (b := 0) d_TrustDeskModel_within_2 d_TrustDeskModel_within_3 (by decide) (mz_wide _) (by decide) (fun b8 => ?_) (fun b8 => ?_)
  · refine mv_iconst (v := 0) d_TrustDeskModel_within_17 (by decide) ?_
    refine mv_iret d_TrustDeskModel_within_18 rfl (by decide) ?_
    refine mv_if_eq_t (tgt := 46) d_TrustDeskModel_fact_14 (by decide) (by decide) ?_
    refine mv_iconst (v := 0) d_TrustDeskModel_fact_46 (by decide) ?_
    exact mv_iret d_TrustDeskModel_fact_47 rfl (by decide) ⟨_, I2, _, rfl, by decide, by decide, R5⟩
  · refine mv_lload_n d_TrustDeskModel_within_6 rfl rfl ?_
    refine mv_lload d_TrustDeskModel_within_7 rfl ?_
    refine mv_lgtZ (tgt := 17) (a := x1.toInt) (b := 7) d_TrustDeskModel_within_9 d_TrustDeskModel_within_10 (by decide) (mz_wide _) (by decide) (fun b9 => ?_) (fun b9 => ?_)
    · refine mv_iconst (v := 0) d_TrustDeskModel_within_17 (by decide) ?_
      refine mv_iret d_TrustDeskModel_within_18 rfl (by decide) ?_
      refine mv_if_eq_t (tgt := 46) d_TrustDeskModel_fact_14 (by decide) (by decide) ?_
      refine mv_iconst (v := 0) d_TrustDeskModel_fact_46 (by decide) ?_
      exact mv_iret d_TrustDeskModel_fact_47 rfl (by decide) ⟨_, I2, _, rfl, by decide, by decide, R5⟩
    · refine mv_iconst (v := 1) d_TrustDeskModel_within_13 (by decide) ?_
      refine mv_goto (tgt := 18) d_TrustDeskModel_within_14 (by decide) ?_
      refine mv_iret d_TrustDeskModel_within_18 rfl (by decide) ?_
      refine mv_if_eq_f (tgt := 46) d_TrustDeskModel_fact_14 (by decide) (by decide) ?_
      refine mv_iload_n d_TrustDeskModel_fact_17 rfl rfl ?_
      refine mv_callS (kc1 := 0) (ks1 := 0) (kc' := 0) (ks' := 0) (As := [.int x2]) (st9 := [.int x2]) d_TrustDeskModel_fact_18 lS_TrustDeskModel_173 (mj_enter (by decide) (Nat.le_of_ble_eq_true rfl) ?_) rfl (Nat.le_of_ble_eq_true rfl) (Nat.le_of_ble_eq_true rfl) (Nat.le_of_ble_eq_true rfl) (hst := rfl) (fun _ _ _ h => h)
      refine mv_iload_n d_TrustDeskModel_isYear_0 rfl rfl ?_
      have := mz_hi x2
      refine mv_if_ltZ (tgt := 14) (a := x2.toInt) d_TrustDeskModel_isYear_1 (by decide) rfl (fun b10 => ?_) (fun b10 => ?_)
      · refine mv_iconst (v := 0) d_TrustDeskModel_isYear_14 (by decide) ?_
        refine mv_iret d_TrustDeskModel_isYear_15 rfl (by decide) ?_
        refine mv_if_eq_t (tgt := 46) d_TrustDeskModel_fact_21 (by decide) (by decide) ?_
        refine mv_iconst (v := 0) d_TrustDeskModel_fact_46 (by decide) ?_
        exact mv_iret d_TrustDeskModel_fact_47 rfl (by decide) ⟨_, I2, _, rfl, by decide, by decide, R5⟩
      · refine mv_iload_n d_TrustDeskModel_isYear_4 rfl rfl ?_
        refine mv_bipush (v := 100) d_TrustDeskModel_isYear_5 (by decide) ?_
        have := mz_hi x2
        refine mv_icmp_gtZ (tgt := 14) (a := x2.toInt) (b := 100) d_TrustDeskModel_isYear_7 (by decide) rfl (by decide) (fun b11 => ?_) (fun b11 => ?_)
        · refine mv_iconst (v := 0) d_TrustDeskModel_isYear_14 (by decide) ?_
          refine mv_iret d_TrustDeskModel_isYear_15 rfl (by decide) ?_
          refine mv_if_eq_t (tgt := 46) d_TrustDeskModel_fact_21 (by decide) (by decide) ?_
          refine mv_iconst (v := 0) d_TrustDeskModel_fact_46 (by decide) ?_
          exact mv_iret d_TrustDeskModel_fact_47 rfl (by decide) ⟨_, I2, _, rfl, by decide, by decide, R5⟩
        · refine mv_iconst (v := 1) d_TrustDeskModel_isYear_10 (by decide) ?_
          refine mv_goto (tgt := 15) d_TrustDeskModel_isYear_11 (by decide) ?_
          refine mv_iret d_TrustDeskModel_isYear_15 rfl (by decide) ?_
          refine mv_if_eq_f (tgt := 46) d_TrustDeskModel_fact_21 (by decide) (by decide) ?_
          refine mv_iload_n d_TrustDeskModel_fact_24 rfl rfl ?_
          refine mv_i2l (v := x3.toInt64) d_TrustDeskModel_fact_25 rfl ?_
          refine mv_lconst (v := 0) d_TrustDeskModel_fact_26 (by decide) ?_
          refine mv_ldc2 d_TrustDeskModel_fact_27 k_TrustDeskModel_177 ?_
          refine mv_callS (kc1 := 0) (ks1 := 0) (kc' := 0) (ks' := 0) (As := [.long x3.toInt64, .long 0, .long 9999]) (st9 := [.long 9999, .long 0, .long x3.toInt64]) d_TrustDeskModel_fact_30 lS_TrustDeskModel_169 (mj_enter (by decide) (Nat.le_of_ble_eq_true rfl) ?_) rfl (Nat.le_of_ble_eq_true rfl) (Nat.le_of_ble_eq_true rfl) (Nat.le_of_ble_eq_true rfl) (hst := rfl) (fun _ _ _ h => h)
          refine mv_lload_n d_TrustDeskModel_within_0 rfl rfl ?_
          refine mv_lload_n d_TrustDeskModel_within_1 rfl rfl ?_
          refine mv_lltZ (tgt := 17) (a := x3.toInt) (b := 0) d_TrustDeskModel_within_2 d_TrustDeskModel_within_3 (by decide) (mz_wide _) (by decide) (fun b12 => ?_) (fun b12 => ?_)
          · refine mv_iconst (v := 0) d_TrustDeskModel_within_17 (by decide) ?_
            refine mv_iret d_TrustDeskModel_within_18 rfl (by decide) ?_
            refine mv_if_eq_t (tgt := 46) d_TrustDeskModel_fact_33 (by decide) (by decide) ?_
            refine mv_iconst (v := 0) d_TrustDeskModel_fact_46 (by decide) ?_
            exact mv_iret d_TrustDeskModel_fact_47 rfl (by decide) ⟨_, I2, _, rfl, by decide, by decide, R5⟩
          · refine mv_lload_n d_TrustDeskModel_within_6 rfl rfl ?_
            refine mv_lload d_TrustDeskModel_within_7 rfl ?_
            refine mv_lgtZ (tgt := 17) (a := x3.toInt) (b := 9999) d_TrustDeskModel_within_9 d_TrustDeskModel_within_10 (by decide) (mz_wide _) (by decide) (fun b13 => ?_) (fun b13 => ?_)
            · refine mv_iconst (v := 0) d_TrustDeskModel_within_17 (by decide) ?_
              refine mv_iret d_TrustDeskModel_within_18 rfl (by decide) ?_
              refine mv_if_eq_t (tgt := 46) d_TrustDeskModel_fact_33 (by decide) (by decide) ?_
              refine mv_iconst (v := 0) d_TrustDeskModel_fact_46 (by decide) ?_
              exact mv_iret d_TrustDeskModel_fact_47 rfl (by decide) ⟨_, I2, _, rfl, by decide, by decide, R5⟩
            · refine mv_iconst (v := 1) d_TrustDeskModel_within_13 (by decide) ?_
              refine mv_goto (tgt := 18) d_TrustDeskModel_within_14 (by decide) ?_
              refine mv_iret d_TrustDeskModel_within_18 rfl (by decide) ?_
              refine mv_if_eq_f (tgt := 46) d_TrustDeskModel_fact_33 (by decide) (by decide) ?_
              refine mv_aload_n d_TrustDeskModel_fact_36 rfl rfl ?_
              obtain ⟨v15, q14⟩ := tm_atI I2 h_o0 (k := 2) rfl
              refine tr_getK q14 d_TrustDeskModel_fact_37 f_TrustDeskModel_179_13 ?_
              have := R5.f (k := 2) q14 rfl
              refine mv_sipush (v := 300) d_TrustDeskModel_fact_40 (by decide) ?_
              have := mz_hi v15
              refine mv_icmp_neZ (tgt := 48) (a := v15.toInt) (b := 300) d_TrustDeskModel_fact_43 (by decide) rfl (by decide) (fun b16 => ?_) (fun b16 => ?_)
              · refine mv_aload_n d_TrustDeskModel_fact_48 rfl rfl ?_
                obtain ⟨a18, q17, t_a18⟩ := tm_atR I2 h_o0 (k := 3) rfl
                refine tr_getK q17 d_TrustDeskModel_fact_49 f_TrustDeskModel_13_13 ?_
                refine mv_iconst (v := 4) d_TrustDeskModel_fact_52 (by decide) ?_
                refine mv_aload_n d_TrustDeskModel_fact_53 rfl rfl ?_
                refine tr_getK (k := 2) q14 d_TrustDeskModel_fact_54 f_TrustDeskModel_179_13 ?_
                refine mv_imul d_TrustDeskModel_fact_57 ?_
                refine mv_iload_n d_TrustDeskModel_fact_58 rfl rfl ?_
                have b19 : (4 * v15 : Int32).toInt = (4 * v15.toInt) := mz_mul2 (by decide) rfl (by omega) (by omega)
                refine tr_iastR (k := 3) I2 R5 (I2.up h_o0) q17 t_a18 (by decide) (by decide) (fun lo hi h => by cases h; exact ⟨by show (0 : Int) ≤ x1.toInt; omega, by show x1.toInt ≤ (36000 : Int); omega⟩) (Or.inl (by decide)) d_TrustDeskModel_fact_59 (vp_in_iff.mpr (by omega)) (fun M20 I21 K22 R23 E24 A25 V26 => ?_)
                refine mv_aload_n d_TrustDeskModel_fact_60 rfl rfl ?_
                refine tr_getK (k := 3) (K22 _ 13 3 _ q17) d_TrustDeskModel_fact_61 f_TrustDeskModel_13_13 ?_
                refine mv_iconst (v := 4) d_TrustDeskModel_fact_64 (by decide) ?_
                refine mv_aload_n d_TrustDeskModel_fact_65 rfl rfl ?_
                refine tr_getK (k := 2) (K22 _ 13 2 _ q14) d_TrustDeskModel_fact_66 f_TrustDeskModel_179_13 ?_
                refine mv_imul d_TrustDeskModel_fact_69 ?_
                refine mv_iconst (v := 1) d_TrustDeskModel_fact_70 (by decide) ?_
                refine mv_iadd d_TrustDeskModel_fact_71 ?_
                refine mv_iload_n d_TrustDeskModel_fact_72 rfl rfl ?_
                have b27 : (4 * v15 : Int32).toInt = (4 * v15.toInt) := mz_mul2 (by decide) rfl (by omega) (by omega)
                have b28 : ((4 * v15) + 1 : Int32).toInt = ((4 * v15.toInt) + 1) := mz_add2 b27 (by decide) (by omega) (by omega)
                refine tr_iastR (k := 3) I21 R23 (I21.up h_o0) (K22 _ 13 3 _ q17) t_a18 (by decide) (by decide) (fun lo hi h => by cases h; exact ⟨by show (0 : Int) ≤ x2.toInt; omega, by show x2.toInt ≤ (36000 : Int); omega⟩) (Or.inl (by decide)) d_TrustDeskModel_fact_73 (vp_in_iff.mpr (by omega)) (fun M29 I30 K31 R32 E33 A34 V35 => ?_)
                refine mv_aload_n d_TrustDeskModel_fact_74 rfl rfl ?_
                refine tr_getK (k := 3) (K31 _ 13 3 _ (K22 _ 13 3 _ q17)) d_TrustDeskModel_fact_75 f_TrustDeskModel_13_13 ?_
                refine mv_iconst (v := 4) d_TrustDeskModel_fact_78 (by decide) ?_
                refine mv_aload_n d_TrustDeskModel_fact_79 rfl rfl ?_
                refine tr_getK (k := 2) (K31 _ 13 2 _ (K22 _ 13 2 _ q14)) d_TrustDeskModel_fact_80 f_TrustDeskModel_179_13 ?_
                refine mv_imul d_TrustDeskModel_fact_83 ?_
                refine mv_iconst (v := 2) d_TrustDeskModel_fact_84 (by decide) ?_
                refine mv_iadd d_TrustDeskModel_fact_85 ?_
                refine mv_iload_n d_TrustDeskModel_fact_86 rfl rfl ?_
                have b36 : (4 * v15 : Int32).toInt = (4 * v15.toInt) := mz_mul2 (by decide) rfl (by omega) (by omega)
                have b37 : ((4 * v15) + 2 : Int32).toInt = ((4 * v15.toInt) + 2) := mz_add2 b36 (by decide) (by omega) (by omega)
                refine tr_iastR (k := 3) I30 R32 (I30.up h_o0) (K31 _ 13 3 _ (K22 _ 13 3 _ q17)) t_a18 (by decide) (by decide) (fun lo hi h => by cases h; exact ⟨by show (0 : Int) ≤ x3.toInt; omega, by show x3.toInt ≤ (36000 : Int); omega⟩) (Or.inl (by decide)) d_TrustDeskModel_fact_87 (vp_in_iff.mpr (by omega)) (fun M38 I39 K40 R41 E42 A43 V44 => ?_)
                refine mv_aload_n d_TrustDeskModel_fact_88 rfl rfl ?_
                refine tr_getK (k := 3) (K40 _ 13 3 _ (K31 _ 13 3 _ (K22 _ 13 3 _ q17))) d_TrustDeskModel_fact_89 f_TrustDeskModel_13_13 ?_
                refine mv_iconst (v := 4) d_TrustDeskModel_fact_92 (by decide) ?_
                refine mv_aload_n d_TrustDeskModel_fact_93 rfl rfl ?_
                refine tr_getK (k := 2) (K40 _ 13 2 _ (K31 _ 13 2 _ (K22 _ 13 2 _ q14))) d_TrustDeskModel_fact_94 f_TrustDeskModel_179_13 ?_
                refine mv_imul d_TrustDeskModel_fact_97 ?_
                refine mv_iconst (v := 3) d_TrustDeskModel_fact_98 (by decide) ?_
                refine mv_iadd d_TrustDeskModel_fact_99 ?_
                refine mv_aload_n d_TrustDeskModel_fact_100 rfl rfl ?_
                obtain ⟨v46, q45⟩ := tm_atI I39 h_o0 (k := 1) rfl
                refine tr_getK q45 d_TrustDeskModel_fact_101 f_TrustDeskModel_164_13 ?_
                have := R41.f (k := 1) q45 rfl
                have b47 : (4 * v15 : Int32).toInt = (4 * v15.toInt) := mz_mul2 (by decide) rfl (by omega) (by omega)
                have b48 : ((4 * v15) + 3 : Int32).toInt = ((4 * v15.toInt) + 3) := mz_add2 b47 (by decide) (by omega) (by omega)
                refine tr_iastR (k := 3) I39 R41 (I39.up h_o0) (K40 _ 13 3 _ (K31 _ 13 3 _ (K22 _ 13 3 _ q17))) t_a18 (by decide) (by decide) (fun lo hi h => by cases h; exact ⟨by show (0 : Int) ≤ v46.toInt; omega, by show v46.toInt ≤ (36000 : Int); omega⟩) (Or.inl (by decide)) d_TrustDeskModel_fact_104 (vp_in_iff.mpr (by omega)) (fun M49 I50 K51 R52 E53 A54 V55 => ?_)
                refine mv_aload_n d_TrustDeskModel_fact_105 rfl rfl ?_
                refine mv_dup d_TrustDeskModel_fact_106 rfl ?_
                refine tr_getK (k := 2) (K51 _ 13 2 _ (K40 _ 13 2 _ (K31 _ 13 2 _ (K22 _ 13 2 _ q14)))) d_TrustDeskModel_fact_107 f_TrustDeskModel_179_13 ?_
                refine mv_iconst (v := 1) d_TrustDeskModel_fact_110 (by decide) ?_
                refine mv_iadd d_TrustDeskModel_fact_111 ?_
                have b56 : (v15 + 1 : Int32).toInt = (v15.toInt + 1) := mz_add2 rfl (by decide) (by omega) (by omega)
                refine tr_putR (k := 2) I50 R52 h_o0 rfl ⟨_, rfl⟩ (fun _ h => by cases h) rfl (fun lo hi h => by cases h; exact ⟨by show (0 : Int) ≤ (v15 + 1).toInt; omega, by show (v15 + 1).toInt ≤ (300 : Int); omega⟩) (Or.inl (by decide)) d_TrustDeskModel_fact_112 p_TrustDeskModel_179_13 rfl rfl (fun M57 I58 q59 K60 R61 A62 V63 => ?_)
                refine mv_iconst (v := 1) d_TrustDeskModel_fact_115 (by decide) ?_
                exact mv_iret d_TrustDeskModel_fact_116 rfl (by decide) ⟨_, I58, _, rfl, by decide, by decide, R61⟩
              · refine mv_iconst (v := 0) d_TrustDeskModel_fact_46 (by decide) ?_
                exact mv_iret d_TrustDeskModel_fact_47 rfl (by decide) ⟨_, I2, _, rfl, by decide, by decide, R5⟩
abbrev kY_TrustDeskModel_feed : mj_Y := (⟨"TrustDeskModel", "feed", "(IIIII)I"⟩, prog_14_method_11_code, 8, (Option.some Jvm.ClassFile.FieldType.int))
theorem d_TrustDeskModel_feed_0 : decode kY_TrustDeskModel_feed.2.1 0 = .ok (.aload_n 0, 1) := by decide +kernel
theorem d_TrustDeskModel_feed_1 : decode kY_TrustDeskModel_feed.2.1 1 = .ok (.iconst 0, 1) := by decide +kernel
theorem d_TrustDeskModel_feed_2 : decode kY_TrustDeskModel_feed.2.1 2 = .ok (.putfield 1, 3) := by decide +kernel
theorem d_TrustDeskModel_feed_5 : decode kY_TrustDeskModel_feed.2.1 5 = .ok (.aload_n 0, 1) := by decide +kernel
theorem d_TrustDeskModel_feed_6 : decode kY_TrustDeskModel_feed.2.1 6 = .ok (.getfield 189, 3) := by decide +kernel
theorem d_TrustDeskModel_feed_9 : decode kY_TrustDeskModel_feed.2.1 9 = .ok (.bipush 20, 2) := by decide +kernel
theorem d_TrustDeskModel_feed_11 : decode kY_TrustDeskModel_feed.2.1 11 = .ok (.iadd, 1) := by decide +kernel
theorem d_TrustDeskModel_feed_12 : decode kY_TrustDeskModel_feed.2.1 12 = .ok (.sipush 400, 3) := by decide +kernel
theorem d_TrustDeskModel_feed_15 : decode kY_TrustDeskModel_feed.2.1 15 = .ok (.if_icmp .le 5, 3) := by decide +kernel
theorem d_TrustDeskModel_feed_20 : decode kY_TrustDeskModel_feed.2.1 20 = .ok (.iconst 0, 1) := by decide +kernel
theorem d_TrustDeskModel_feed_21 : decode kY_TrustDeskModel_feed.2.1 21 = .ok (.istore 6, 2) := by decide +kernel
theorem d_TrustDeskModel_feed_23 : decode kY_TrustDeskModel_feed.2.1 23 = .ok (.iload 6, 2) := by decide +kernel
theorem d_TrustDeskModel_feed_25 : decode kY_TrustDeskModel_feed.2.1 25 = .ok (.bipush 20, 2) := by decide +kernel
theorem d_TrustDeskModel_feed_27 : decode kY_TrustDeskModel_feed.2.1 27 = .ok (.if_icmp .ge 90, 3) := by decide +kernel
theorem d_TrustDeskModel_feed_117 : decode kY_TrustDeskModel_feed.2.1 117 = .ok (.aload_n 0, 1) := by decide +kernel
theorem d_TrustDeskModel_feed_118 : decode kY_TrustDeskModel_feed.2.1 118 = .ok (.getfield 189, 3) := by decide +kernel
theorem d_TrustDeskModel_feed_121 : decode kY_TrustDeskModel_feed.2.1 121 = .ok (.ireturn, 1) := by decide +kernel
theorem d_TrustDeskModel_feed_30 : decode kY_TrustDeskModel_feed.2.1 30 = .ok (.iload 6, 2) := by decide +kernel
theorem d_TrustDeskModel_feed_32 : decode kY_TrustDeskModel_feed.2.1 32 = .ok (.iconst 4, 1) := by decide +kernel
theorem d_TrustDeskModel_feed_33 : decode kY_TrustDeskModel_feed.2.1 33 = .ok (.if_icmp .ge 7, 3) := by decide +kernel
theorem d_TrustDeskModel_feed_40 : decode kY_TrustDeskModel_feed.2.1 40 = .ok (.iload 6, 2) := by decide +kernel
theorem d_TrustDeskModel_feed_42 : decode kY_TrustDeskModel_feed.2.1 42 = .ok (.bipush 8, 2) := by decide +kernel
theorem d_TrustDeskModel_feed_44 : decode kY_TrustDeskModel_feed.2.1 44 = .ok (.if_icmp .ge 7, 3) := by decide +kernel
theorem d_TrustDeskModel_feed_51 : decode kY_TrustDeskModel_feed.2.1 51 = .ok (.iload 6, 2) := by decide +kernel
theorem d_TrustDeskModel_feed_53 : decode kY_TrustDeskModel_feed.2.1 53 = .ok (.bipush 12, 2) := by decide +kernel
theorem d_TrustDeskModel_feed_55 : decode kY_TrustDeskModel_feed.2.1 55 = .ok (.if_icmp .ge 7, 3) := by decide +kernel
theorem d_TrustDeskModel_feed_62 : decode kY_TrustDeskModel_feed.2.1 62 = .ok (.iload 6, 2) := by decide +kernel
theorem d_TrustDeskModel_feed_64 : decode kY_TrustDeskModel_feed.2.1 64 = .ok (.bipush 16, 2) := by decide +kernel
theorem d_TrustDeskModel_feed_66 : decode kY_TrustDeskModel_feed.2.1 66 = .ok (.if_icmp .ge 8, 3) := by decide +kernel
theorem d_TrustDeskModel_feed_74 : decode kY_TrustDeskModel_feed.2.1 74 = .ok (.iload 5, 2) := by decide +kernel
theorem d_TrustDeskModel_feed_76 : decode kY_TrustDeskModel_feed.2.1 76 = .ok (.istore 7, 2) := by decide +kernel
theorem d_TrustDeskModel_feed_78 : decode kY_TrustDeskModel_feed.2.1 78 = .ok (.aload_n 0, 1) := by decide +kernel
theorem d_TrustDeskModel_feed_79 : decode kY_TrustDeskModel_feed.2.1 79 = .ok (.getfield 44, 3) := by decide +kernel
theorem d_TrustDeskModel_feed_82 : decode kY_TrustDeskModel_feed.2.1 82 = .ok (.aload_n 0, 1) := by decide +kernel
theorem d_TrustDeskModel_feed_83 : decode kY_TrustDeskModel_feed.2.1 83 = .ok (.getfield 189, 3) := by decide +kernel
theorem d_TrustDeskModel_feed_86 : decode kY_TrustDeskModel_feed.2.1 86 = .ok (.iload 7, 2) := by decide +kernel
theorem d_TrustDeskModel_feed_88 : decode kY_TrustDeskModel_feed.2.1 88 = .ok (.bipush 24, 2) := by decide +kernel
theorem d_TrustDeskModel_feed_90 : decode kY_TrustDeskModel_feed.2.1 90 = .ok (.bipush 8, 2) := by decide +kernel
theorem d_TrustDeskModel_feed_92 : decode kY_TrustDeskModel_feed.2.1 92 = .ok (.iload 6, 2) := by decide +kernel
theorem d_TrustDeskModel_feed_94 : decode kY_TrustDeskModel_feed.2.1 94 = .ok (.iconst 4, 1) := by decide +kernel
theorem d_TrustDeskModel_feed_95 : decode kY_TrustDeskModel_feed.2.1 95 = .ok (.irem, 1) := by decide +kernel
theorem d_TrustDeskModel_feed_96 : decode kY_TrustDeskModel_feed.2.1 96 = .ok (.imul, 1) := by decide +kernel
theorem d_TrustDeskModel_feed_97 : decode kY_TrustDeskModel_feed.2.1 97 = .ok (.isub, 1) := by decide +kernel
theorem d_TrustDeskModel_feed_98 : decode kY_TrustDeskModel_feed.2.1 98 = .ok (.ishr, 1) := by decide +kernel
theorem d_TrustDeskModel_feed_99 : decode kY_TrustDeskModel_feed.2.1 99 = .ok (.i2b, 1) := by decide +kernel
theorem d_TrustDeskModel_feed_100 : decode kY_TrustDeskModel_feed.2.1 100 = .ok (.bastore, 1) := by decide +kernel
theorem d_TrustDeskModel_feed_101 : decode kY_TrustDeskModel_feed.2.1 101 = .ok (.aload_n 0, 1) := by decide +kernel
theorem d_TrustDeskModel_feed_102 : decode kY_TrustDeskModel_feed.2.1 102 = .ok (.dup, 1) := by decide +kernel
theorem d_TrustDeskModel_feed_103 : decode kY_TrustDeskModel_feed.2.1 103 = .ok (.getfield 189, 3) := by decide +kernel
theorem d_TrustDeskModel_feed_106 : decode kY_TrustDeskModel_feed.2.1 106 = .ok (.iconst 1, 1) := by decide +kernel
theorem d_TrustDeskModel_feed_107 : decode kY_TrustDeskModel_feed.2.1 107 = .ok (.iadd, 1) := by decide +kernel
theorem d_TrustDeskModel_feed_108 : decode kY_TrustDeskModel_feed.2.1 108 = .ok (.putfield 189, 3) := by decide +kernel
theorem d_TrustDeskModel_feed_111 : decode kY_TrustDeskModel_feed.2.1 111 = .ok (.iinc 6 1, 3) := by decide +kernel
theorem d_TrustDeskModel_feed_114 : decode kY_TrustDeskModel_feed.2.1 114 = .ok (.goto (-91), 3) := by decide +kernel
theorem d_TrustDeskModel_feed_69 : decode kY_TrustDeskModel_feed.2.1 69 = .ok (.iload 4, 2) := by decide +kernel
theorem d_TrustDeskModel_feed_71 : decode kY_TrustDeskModel_feed.2.1 71 = .ok (.goto 5, 3) := by decide +kernel
theorem d_TrustDeskModel_feed_58 : decode kY_TrustDeskModel_feed.2.1 58 = .ok (.iload_n 3, 1) := by decide +kernel
theorem d_TrustDeskModel_feed_59 : decode kY_TrustDeskModel_feed.2.1 59 = .ok (.goto 17, 3) := by decide +kernel
theorem d_TrustDeskModel_feed_47 : decode kY_TrustDeskModel_feed.2.1 47 = .ok (.iload_n 2, 1) := by decide +kernel
theorem d_TrustDeskModel_feed_48 : decode kY_TrustDeskModel_feed.2.1 48 = .ok (.goto 28, 3) := by decide +kernel
theorem d_TrustDeskModel_feed_36 : decode kY_TrustDeskModel_feed.2.1 36 = .ok (.iload_n 1, 1) := by decide +kernel
theorem d_TrustDeskModel_feed_37 : decode kY_TrustDeskModel_feed.2.1 37 = .ok (.goto 39, 3) := by decide +kernel
theorem d_TrustDeskModel_feed_18 : decode kY_TrustDeskModel_feed.2.1 18 = .ok (.iconst (-1), 1) := by decide +kernel
theorem d_TrustDeskModel_feed_19 : decode kY_TrustDeskModel_feed.2.1 19 = .ok (.ireturn, 1) := by decide +kernel
