abbrev kY_TrustDeskModel_failsBy : mj_Y := (⟨"TrustDeskModel", "failsBy", "(I)I"⟩, prog_14_method_83_code, 2, (Option.some Jvm.ClassFile.FieldType.int))
theorem d_TrustDeskModel_failsBy_0 : decode kY_TrustDeskModel_failsBy.2.1 0 = .ok (.aload_n 0, 1) := by decide +kernel
theorem d_TrustDeskModel_failsBy_1 : decode kY_TrustDeskModel_failsBy.2.1 1 = .ok (.iload_n 1, 1) := by decide +kernel
theorem d_TrustDeskModel_failsBy_2 : decode kY_TrustDeskModel_failsBy.2.1 2 = .ok (.invokevirtual 521, 3) := by decide +kernel
theorem lV_TrustDeskModel_521 : mj_lV "TrustDeskModel" 521 kY_TrustDeskModel_canBe 1 := ⟨⟨(mj_in1 (List.mem_of_getElem? (i := 1953) (by decide +kernel)) rfl), (mj_in1 (List.mem_of_getElem? (i := 10) (by decide +kernel)) rfl), (mj_in1 (List.mem_of_getElem? (i := 1956) (by decide +kernel)) rfl), by decide, rfl, by decide⟩, (mj_in1 (List.mem_of_getElem? (i := 1955) (by decide +kernel)) rfl), (mj_in (List.mem_append_left _ (List.mem_of_getElem? (i := 128) (by decide +kernel))) rfl)⟩
theorem d_TrustDeskModel_failsBy_5 : decode kY_TrustDeskModel_failsBy.2.1 5 = .ok (.ifCond .ne 5, 3) := by decide +kernel
theorem d_TrustDeskModel_failsBy_10 : decode kY_TrustDeskModel_failsBy.2.1 10 = .ok (.aload_n 0, 1) := by decide +kernel
theorem d_TrustDeskModel_failsBy_11 : decode kY_TrustDeskModel_failsBy.2.1 11 = .ok (.iload_n 1, 1) := by decide +kernel
theorem d_TrustDeskModel_failsBy_12 : decode kY_TrustDeskModel_failsBy.2.1 12 = .ok (.invokevirtual 524, 3) := by decide +kernel
theorem lV_TrustDeskModel_524 : mj_lV "TrustDeskModel" 524 kY_TrustDeskModel_isBarred 1 := ⟨⟨(mj_in1 (List.mem_of_getElem? (i := 1961) (by decide +kernel)) rfl), (mj_in1 (List.mem_of_getElem? (i := 10) (by decide +kernel)) rfl), (mj_in1 (List.mem_of_getElem? (i := 1964) (by decide +kernel)) rfl), by decide, rfl, by decide⟩, (mj_in1 (List.mem_of_getElem? (i := 1963) (by decide +kernel)) rfl), (mj_in (List.mem_append_left _ (List.mem_of_getElem? (i := 130) (by decide +kernel))) rfl)⟩
theorem d_TrustDeskModel_failsBy_15 : decode kY_TrustDeskModel_failsBy.2.1 15 = .ok (.ifCond .eq 5, 3) := by decide +kernel
theorem d_TrustDeskModel_failsBy_20 : decode kY_TrustDeskModel_failsBy.2.1 20 = .ok (.aload_n 0, 1) := by decide +kernel
theorem d_TrustDeskModel_failsBy_21 : decode kY_TrustDeskModel_failsBy.2.1 21 = .ok (.iload_n 1, 1) := by decide +kernel
theorem d_TrustDeskModel_failsBy_22 : decode kY_TrustDeskModel_failsBy.2.1 22 = .ok (.invokevirtual 527, 3) := by decide +kernel
theorem lV_TrustDeskModel_527 : mj_lV "TrustDeskModel" 527 kY_TrustDeskModel_marksLeft 1 := ⟨⟨(mj_in1 (List.mem_of_getElem? (i := 1969) (by decide +kernel)) rfl), (mj_in1 (List.mem_of_getElem? (i := 10) (by decide +kernel)) rfl), (mj_in1 (List.mem_of_getElem? (i := 1972) (by decide +kernel)) rfl), by decide, rfl, by decide⟩, (mj_in1 (List.mem_of_getElem? (i := 1971) (by decide +kernel)) rfl), (mj_in (List.mem_append_left _ (List.mem_of_getElem? (i := 132) (by decide +kernel))) rfl)⟩
theorem d_TrustDeskModel_failsBy_25 : decode kY_TrustDeskModel_failsBy.2.1 25 = .ok (.aload_n 0, 1) := by decide +kernel
theorem d_TrustDeskModel_failsBy_26 : decode kY_TrustDeskModel_failsBy.2.1 26 = .ok (.aload_n 0, 1) := by decide +kernel
theorem d_TrustDeskModel_failsBy_27 : decode kY_TrustDeskModel_failsBy.2.1 27 = .ok (.getfield 164, 3) := by decide +kernel
theorem d_TrustDeskModel_failsBy_30 : decode kY_TrustDeskModel_failsBy.2.1 30 = .ok (.iconst 1, 1) := by decide +kernel
theorem d_TrustDeskModel_failsBy_31 : decode kY_TrustDeskModel_failsBy.2.1 31 = .ok (.invokevirtual 396, 3) := by decide +kernel
theorem d_TrustDeskModel_failsBy_34 : decode kY_TrustDeskModel_failsBy.2.1 34 = .ok (.if_icmp .ge 5, 3) := by decide +kernel
theorem d_TrustDeskModel_failsBy_39 : decode kY_TrustDeskModel_failsBy.2.1 39 = .ok (.aload_n 0, 1) := by decide +kernel
theorem d_TrustDeskModel_failsBy_40 : decode kY_TrustDeskModel_failsBy.2.1 40 = .ok (.iload_n 1, 1) := by decide +kernel
theorem d_TrustDeskModel_failsBy_41 : decode kY_TrustDeskModel_failsBy.2.1 41 = .ok (.aload_n 0, 1) := by decide +kernel
theorem d_TrustDeskModel_failsBy_42 : decode kY_TrustDeskModel_failsBy.2.1 42 = .ok (.getfield 125, 3) := by decide +kernel
theorem d_TrustDeskModel_failsBy_45 : decode kY_TrustDeskModel_failsBy.2.1 45 = .ok (.iload_n 1, 1) := by decide +kernel
theorem d_TrustDeskModel_failsBy_46 : decode kY_TrustDeskModel_failsBy.2.1 46 = .ok (.iaload, 1) := by decide +kernel
theorem d_TrustDeskModel_failsBy_47 : decode kY_TrustDeskModel_failsBy.2.1 47 = .ok (.invokevirtual 530, 3) := by decide +kernel
theorem lV_TrustDeskModel_530 : mj_lV "TrustDeskModel" 530 kY_TrustDeskModel_lacksYes 2 := ⟨⟨(mj_in1 (List.mem_of_getElem? (i := 1973) (by decide +kernel)) rfl), (mj_in1 (List.mem_of_getElem? (i := 10) (by decide +kernel)) rfl), (mj_in1 (List.mem_of_getElem? (i := 1976) (by decide +kernel)) rfl), by decide, rfl, by decide⟩, (mj_in1 (List.mem_of_getElem? (i := 1975) (by decide +kernel)) rfl), (mj_in (List.mem_append_left _ (List.mem_of_getElem? (i := 133) (by decide +kernel))) rfl)⟩
theorem d_TrustDeskModel_failsBy_50 : decode kY_TrustDeskModel_failsBy.2.1 50 = .ok (.ifCond .ne 27, 3) := by decide +kernel
theorem d_TrustDeskModel_failsBy_77 : decode kY_TrustDeskModel_failsBy.2.1 77 = .ok (.iconst 4, 1) := by decide +kernel
theorem d_TrustDeskModel_failsBy_78 : decode kY_TrustDeskModel_failsBy.2.1 78 = .ok (.ireturn, 1) := by decide +kernel
theorem d_TrustDeskModel_failsBy_53 : decode kY_TrustDeskModel_failsBy.2.1 53 = .ok (.aload_n 0, 1) := by decide +kernel
theorem d_TrustDeskModel_failsBy_54 : decode kY_TrustDeskModel_failsBy.2.1 54 = .ok (.getfield 122, 3) := by decide +kernel
theorem d_TrustDeskModel_failsBy_57 : decode kY_TrustDeskModel_failsBy.2.1 57 = .ok (.iload_n 1, 1) := by decide +kernel
theorem d_TrustDeskModel_failsBy_58 : decode kY_TrustDeskModel_failsBy.2.1 58 = .ok (.iaload, 1) := by decide +kernel
theorem d_TrustDeskModel_failsBy_59 : decode kY_TrustDeskModel_failsBy.2.1 59 = .ok (.iconst 1, 1) := by decide +kernel
theorem d_TrustDeskModel_failsBy_60 : decode kY_TrustDeskModel_failsBy.2.1 60 = .ok (.if_icmp .ne 19, 3) := by decide +kernel
theorem d_TrustDeskModel_failsBy_79 : decode kY_TrustDeskModel_failsBy.2.1 79 = .ok (.aload_n 0, 1) := by decide +kernel
theorem d_TrustDeskModel_failsBy_80 : decode kY_TrustDeskModel_failsBy.2.1 80 = .ok (.iload_n 1, 1) := by decide +kernel
theorem d_TrustDeskModel_failsBy_81 : decode kY_TrustDeskModel_failsBy.2.1 81 = .ok (.invokevirtual 512, 3) := by decide +kernel
theorem d_TrustDeskModel_failsBy_84 : decode kY_TrustDeskModel_failsBy.2.1 84 = .ok (.ifCond .le 7, 3) := by decide +kernel
theorem d_TrustDeskModel_failsBy_91 : decode kY_TrustDeskModel_failsBy.2.1 91 = .ok (.iconst 0, 1) := by decide +kernel
theorem d_TrustDeskModel_failsBy_92 : decode kY_TrustDeskModel_failsBy.2.1 92 = .ok (.ireturn, 1) := by decide +kernel
theorem d_TrustDeskModel_failsBy_87 : decode kY_TrustDeskModel_failsBy.2.1 87 = .ok (.iconst 5, 1) := by decide +kernel
theorem d_TrustDeskModel_failsBy_88 : decode kY_TrustDeskModel_failsBy.2.1 88 = .ok (.goto 4, 3) := by decide +kernel
theorem d_TrustDeskModel_failsBy_63 : decode kY_TrustDeskModel_failsBy.2.1 63 = .ok (.aload_n 0, 1) := by decide +kernel
theorem d_TrustDeskModel_failsBy_64 : decode kY_TrustDeskModel_failsBy.2.1 64 = .ok (.iload_n 1, 1) := by decide +kernel
theorem d_TrustDeskModel_failsBy_65 : decode kY_TrustDeskModel_failsBy.2.1 65 = .ok (.aload_n 0, 1) := by decide +kernel
theorem d_TrustDeskModel_failsBy_66 : decode kY_TrustDeskModel_failsBy.2.1 66 = .ok (.getfield 128, 3) := by decide +kernel
theorem d_TrustDeskModel_failsBy_69 : decode kY_TrustDeskModel_failsBy.2.1 69 = .ok (.iload_n 1, 1) := by decide +kernel
theorem d_TrustDeskModel_failsBy_70 : decode kY_TrustDeskModel_failsBy.2.1 70 = .ok (.iaload, 1) := by decide +kernel
theorem d_TrustDeskModel_failsBy_71 : decode kY_TrustDeskModel_failsBy.2.1 71 = .ok (.invokevirtual 530, 3) := by decide +kernel
theorem d_TrustDeskModel_failsBy_74 : decode kY_TrustDeskModel_failsBy.2.1 74 = .ok (.ifCond .eq 5, 3) := by decide +kernel
theorem d_TrustDeskModel_failsBy_37 : decode kY_TrustDeskModel_failsBy.2.1 37 = .ok (.iconst 3, 1) := by decide +kernel
theorem d_TrustDeskModel_failsBy_38 : decode kY_TrustDeskModel_failsBy.2.1 38 = .ok (.ireturn, 1) := by decide +kernel
theorem d_TrustDeskModel_failsBy_18 : decode kY_TrustDeskModel_failsBy.2.1 18 = .ok (.iconst 2, 1) := by decide +kernel
theorem d_TrustDeskModel_failsBy_19 : decode kY_TrustDeskModel_failsBy.2.1 19 = .ok (.ireturn, 1) := by decide +kernel
theorem d_TrustDeskModel_failsBy_8 : decode kY_TrustDeskModel_failsBy.2.1 8 = .ok (.iconst 1, 1) := by decide +kernel
theorem d_TrustDeskModel_failsBy_9 : decode kY_TrustDeskModel_failsBy.2.1 9 = .ok (.ireturn, 1) := by decide +kernel
def w_TrustDeskModel_failsBy_x : List Nat := [1331, 20029, 20030]
set_option maxHeartbeats 100000000 in theorem tc_TrustDeskModel_failsBy_x {g : mj_G} {l : Launch} {d : Nat} {T0 : tm_H} {M0 : mj_M} {n0 x9 : Nat} {o0 : Nat} {x1 : Int32} (h_o0 : T0 o0 = some (0, 13, 0)) (hn0 : 0 ≤ x1.toInt ∧ x1.toInt ≤ 39) (yR : rI M0 o0) (yC : rC M0 o0 44) (yX : rX M0 o0) (ys : x1.toInt < rv M0 o0 53) (I0 : tm_I tm_FT (tm_in w_TrustDeskModel_failsBy_x) x9 T0 M0 n0 T0 M0 n0) : mj_Met g l kY_TrustDeskModel_failsBy (d + 4) [.ref o0, .int x1] M0 n0 0 0 (tm_Q tm_FT (tm_in w_TrustDeskModel_failsBy_x) x9 T0 M0 n0 (fun r _ M => ∃ v : Int32, r = some (.int v) ∧ rI M o0 ∧ (v.toInt = 0 → rCB M o0 x1.toNatClampNeg))) := by
  refine mj_enter (by decide) (Nat.le_of_ble_eq_true rfl) ?_
  have K1 : rC M0 o0 44 := yC
  have K2 : rX M0 o0 := yX
  refine mv_aload_n d_TrustDeskModel_failsBy_0 rfl rfl ?_
  refine mv_iload_n d_TrustDeskModel_failsBy_1 rfl rfl ?_
  obtain ⟨_, b9, -⟩ := I0.1 _ _ h_o0
  refine mv_callV (kc' := 0) (ks' := 0) (As := [.int x1]) (st9 := [.int x1, .ref o0]) d_TrustDeskModel_failsBy_2 lV_TrustDeskModel_521 b9 rfl (tc_TrustDeskModel_canBe_x (d := (d + 1)) (x9 := x9) (o0 := o0) (x1 := x1) h_o0 (by have := yR.1 32 _ _ rfl; have := yR.1 53 _ _ rfl; omega) yR K2 (by have := yR.1 32 _ _ rfl; have := yR.1 53 _ _ rfl; omega) I0.start) rfl (Nat.le_of_ble_eq_true rfl) (Nat.le_of_ble_eq_true rfl) (Nat.le_of_ble_eq_true rfl) (hst := rfl) (fun b3r M4 n5 b3 => ?_)
  obtain ⟨T6, J7, v10, rfl, b11, b12, R13, f14⟩ := b3
  have I8 := I0.call J7 (tm_sub (by decide)) (Or.inl rfl)
  have t15 := J7.up h_o0
  replace f14 := Im.i f14
  have z16 := (rv_c I0 J7 (I0.up h_o0) (k := 32) rfl)
  have z17 := (rv_c I0 J7 (I0.up h_o0) (k := 53) rfl)
  have K18 : rC M4 o0 44 := K1.same (sA_c I0 J7 (I0.up h_o0) (by decide +kernel)) (sF_c I0 J7 (I0.up h_o0) (by decide +kernel))
  have K19 : rX M4 o0 := K2.same (sA_c I0 J7 (I0.up h_o0) (by decide +kernel)) (sF_c I0 J7 (I0.up h_o0) (by decide +kernel))
  have K20 : v10.toInt = 1 → rCB M4 o0 x1.toNatClampNeg := (fun h9 => (f14.o h9).same (sA_c I0 J7 (I0.up h_o0) (by decide)) (sF_c I0 J7 (I0.up h_o0) (by decide)))
  have := mz_hi v10
  refine mv_if_neZ (tgt := 10) (a := v10.toInt) d_TrustDeskModel_failsBy_5 (by decide) rfl (fun b21 => ?_) (fun b21 => ?_)
  · refine mv_aload_n d_TrustDeskModel_failsBy_10 rfl rfl ?_
    refine mv_iload_n d_TrustDeskModel_failsBy_11 rfl rfl ?_
    obtain ⟨_, b28, -⟩ := I8.1 _ _ t15
    refine mv_callV (kc' := 0) (ks' := 0) (As := [.int x1]) (st9 := [.int x1, .ref o0]) d_TrustDeskModel_failsBy_12 lV_TrustDeskModel_524 b28 rfl (tc_TrustDeskModel_isBarred_x (d := d) (x9 := x9) (o0 := o0) (x1 := x1) t15 (by have := R13.1 32 _ _ rfl; have := R13.1 53 _ _ rfl; omega) R13 K18 I8.start) rfl (Nat.le_of_ble_eq_true rfl) (Nat.le_of_ble_eq_true rfl) (Nat.le_of_ble_eq_true rfl) (hst := rfl) (fun b22r M23 n24 b22 => ?_)
    obtain ⟨T25, J26, v29, rfl, b30, b31, R32⟩ := b22
    have I27 := I8.call J26 (tm_sub (by decide)) (Or.inl rfl)
    have t33 := J26.up t15
    have z34 := (rv_c I8 J26 (I8.up h_o0) (k := 32) rfl).trans z16
    have z35 := (rv_c I8 J26 (I8.up h_o0) (k := 53) rfl).trans z17
    have K36 : rC M23 o0 44 := K18.same (sA_c I8 J26 (I8.up h_o0) (by decide +kernel)) (sF_c I8 J26 (I8.up h_o0) (by decide +kernel))
    have K37 : rX M23 o0 := K19.same (sA_c I8 J26 (I8.up h_o0) (by decide +kernel)) (sF_c I8 J26 (I8.up h_o0) (by decide +kernel))
    have K38 : v10.toInt = 1 → rCB M23 o0 x1.toNatClampNeg := (fun h9 => (K20 h9).same (sA_c I8 J26 (I8.up h_o0) (by decide +kernel)) (sF_c I8 J26 (I8.up h_o0) (by decide +kernel)))
    clear z16 z17
    have := mz_hi v29
    refine mv_if_eqZ (tgt := 20) (a := v29.toInt) d_TrustDeskModel_failsBy_15 (by decide) rfl (fun b39 => ?_) (fun b39 => ?_)
    · refine mv_aload_n d_TrustDeskModel_failsBy_20 rfl rfl ?_
      refine mv_iload_n d_TrustDeskModel_failsBy_21 rfl rfl ?_
      obtain ⟨_, b46, -⟩ := I27.1 _ _ t33
      refine mv_callV (kc' := 0) (ks' := 0) (As := [.int x1]) (st9 := [.int x1, .ref o0]) d_TrustDeskModel_failsBy_22 lV_TrustDeskModel_527 b46 rfl (tc_TrustDeskModel_marksLeft_x (d := (d + 2)) (x9 := x9) (o0 := o0) (x1 := x1) t33 (by have := R32.1 32 _ _ rfl; have := R32.1 53 _ _ rfl; omega) R32 K37 (by have := R32.1 32 _ _ rfl; have := R32.1 53 _ _ rfl; omega) I27.start) rfl (Nat.le_of_ble_eq_true rfl) (Nat.le_of_ble_eq_true rfl) (Nat.le_of_ble_eq_true rfl) (hst := rfl) (fun b40r M41 n42 b40 => ?_)
      obtain ⟨T43, J44, v47, rfl, R48⟩ := b40
      have I45 := I27.call J44 (tm_sub (by decide)) (Or.inl rfl)
      have t49 := J44.up t33
      have z50 := (rv_c I27 J44 (I27.up h_o0) (k := 32) rfl).trans z34
      have z51 := (rv_c I27 J44 (I27.up h_o0) (k := 53) rfl).trans z35
      have K52 : rC M41 o0 44 := K36.same (sA_c I27 J44 (I27.up h_o0) (by decide +kernel)) (sF_c I27 J44 (I27.up h_o0) (by decide +kernel))
      have K53 : rX M41 o0 := K37.same (sA_c I27 J44 (I27.up h_o0) (by decide +kernel)) (sF_c I27 J44 (I27.up h_o0) (by decide +kernel))
      have K54 : v10.toInt = 1 → rCB M41 o0 x1.toNatClampNeg := (fun h9 => (K38 h9).same (sA_c I27 J44 (I27.up h_o0) (by decide +kernel)) (sF_c I27 J44 (I27.up h_o0) (by decide +kernel)))
      clear z34 z35
      refine mv_aload_n d_TrustDeskModel_failsBy_25 rfl rfl ?_
      refine mv_aload_n d_TrustDeskModel_failsBy_26 rfl rfl ?_
      obtain ⟨v56, q55⟩ := tm_atI I45 t49 (k := 1) rfl
      refine tr_getK q55 d_TrustDeskModel_failsBy_27 f_TrustDeskModel_164_13 ?_
      have := R48.f (k := 1) q55 rfl
      refine mv_iconst (v := 1) d_TrustDeskModel_failsBy_30 (by decide) ?_
      obtain ⟨_, b63, -⟩ := I45.1 _ _ t49
      have : (1 : Int32).toInt = 1 := by decide
      refine mv_callV (kc' := 0) (ks' := 0) (As := [.int v56, .int 1]) (st9 := [.int 1, .int v56, .ref o0, .int v47]) d_TrustDeskModel_failsBy_31 lV_TrustDeskModel_396 b63 rfl (tc_TrustDeskModel_toldOn_x (d := (d + 2)) (x9 := x9) (o0 := o0) (x1 := v56) (x2 := 1) t49 R48 K52.2.2.1 I45.start) rfl (Nat.le_of_ble_eq_true rfl) (Nat.le_of_ble_eq_true rfl) (Nat.le_of_ble_eq_true rfl) (hst := rfl) (fun b57r M58 n59 b57 => ?_)
      obtain ⟨T60, J61, v64, rfl, R65, f66⟩ := b57
      have I62 := I45.call J61 (tm_sub (by decide)) (Or.inl rfl)
      have t67 := J61.up t49
      have z68 := (rv_c I45 J61 (I45.up h_o0) (k := 32) rfl).trans z50
      have z69 := (rv_c I45 J61 (I45.up h_o0) (k := 53) rfl).trans z51
      have K70 : rC M58 o0 44 := K52.same (sA_c I45 J61 (I45.up h_o0) (by decide +kernel)) (sF_c I45 J61 (I45.up h_o0) (by decide +kernel))
      have K71 : rX M58 o0 := K53.same (sA_c I45 J61 (I45.up h_o0) (by decide +kernel)) (sF_c I45 J61 (I45.up h_o0) (by decide +kernel))
      have K72 : v10.toInt = 1 → rCB M58 o0 x1.toNatClampNeg := (fun h9 => (K54 h9).same (sA_c I45 J61 (I45.up h_o0) (by decide +kernel)) (sF_c I45 J61 (I45.up h_o0) (by decide +kernel)))
      clear z50 z51
      have q73 := J61.keep t49 (by decide) q55
      have := mz_hi v47
      have := mz_hi v64
      refine mv_icmp_geZ (tgt := 39) (a := v47.toInt) (b := v64.toInt) d_TrustDeskModel_failsBy_34 (by decide) rfl rfl (fun b74 => ?_) (fun b74 => ?_)
      · refine mv_aload_n d_TrustDeskModel_failsBy_39 rfl rfl ?_
        refine mv_iload_n d_TrustDeskModel_failsBy_40 rfl rfl ?_
        refine mv_aload_n d_TrustDeskModel_failsBy_41 rfl rfl ?_
        obtain ⟨a76, q75, t_a76⟩ := tm_atR I62 t67 (k := 55) rfl
        refine tr_getK q75 d_TrustDeskModel_failsBy_42 f_TrustDeskModel_125_13 ?_
        refine mv_iload_n d_TrustDeskModel_failsBy_45 rfl rfl ?_
        refine tr_ialdR (o := o0) (k := 55) I62 q75 t_a76 (by decide) d_TrustDeskModel_failsBy_46 (vp_in_iff.mpr (by have := R65.1 32 _ _ rfl; have := R65.1 53 _ _ rfl; omega)) (fun v77 e78 => ?_)
        have := R65.a (k := 55) rfl (x1 : Int32).toNatClampNeg
        obtain ⟨_, b85, -⟩ := I62.1 _ _ t67
        refine mv_callV (kc' := 0) (ks' := 0) (As := [.int x1, .int v77]) (st9 := [.int v77, .int x1, .ref o0]) d_TrustDeskModel_failsBy_47 lV_TrustDeskModel_530 b85 rfl (tc_TrustDeskModel_lacksYes_x (d := (d + 3)) (x9 := x9) (o0 := o0) (x1 := x1) (x2 := v77) t67 (by have := R65.1 32 _ _ rfl; have := R65.1 53 _ _ rfl; omega) (by have := R65.1 32 _ _ rfl; have := R65.1 53 _ _ rfl; omega) R65 I62.start) rfl (Nat.le_of_ble_eq_true rfl) (Nat.le_of_ble_eq_true rfl) (Nat.le_of_ble_eq_true rfl) (hst := rfl) (fun b79r M80 n81 b79 => ?_)
        obtain ⟨T82, J83, v86, rfl, b87, b88, R89⟩ := b79
        have I84 := I62.call J83 (tm_sub (by decide)) (Or.inl rfl)
        have t90 := J83.up t67
        have z91 := (rv_c I62 J83 (I62.up h_o0) (k := 32) rfl).trans z68
        have z92 := (rv_c I62 J83 (I62.up h_o0) (k := 53) rfl).trans z69
        have K93 : rC M80 o0 44 := K70.same (sA_c I62 J83 (I62.up h_o0) (by decide +kernel)) (sF_c I62 J83 (I62.up h_o0) (by decide +kernel))
        have K94 : rX M80 o0 := K71.same (sA_c I62 J83 (I62.up h_o0) (by decide +kernel)) (sF_c I62 J83 (I62.up h_o0) (by decide +kernel))
        have K95 : v10.toInt = 1 → rCB M80 o0 x1.toNatClampNeg := (fun h9 => (K72 h9).same (sA_c I62 J83 (I62.up h_o0) (by decide +kernel)) (sF_c I62 J83 (I62.up h_o0) (by decide +kernel)))
        clear z68 z69
        have q96 := J83.keep t67 (by decide) q73
        have q97 := J83.keep t67 (by decide) q75
        have t98 := J83.up t_a76
        have := mz_hi v86
        refine mv_if_neZ (tgt := 77) (a := v86.toInt) d_TrustDeskModel_failsBy_50 (by decide) rfl (fun b99 => ?_) (fun b99 => ?_)
        · refine mv_iconst (v := 4) d_TrustDeskModel_failsBy_77 (by decide) ?_
          exact mv_iret d_TrustDeskModel_failsBy_78 rfl (by first | rfl | decide) ⟨_, I84, _, rfl, R89, (fun h9 => absurd h9 (by decide))⟩
        · refine mv_aload_n d_TrustDeskModel_failsBy_53 rfl rfl ?_
          obtain ⟨a101, q100, t_a101⟩ := tm_atR I84 t90 (k := 54) rfl
          refine tr_getK q100 d_TrustDeskModel_failsBy_54 f_TrustDeskModel_122_13 ?_
          refine mv_iload_n d_TrustDeskModel_failsBy_57 rfl rfl ?_
          refine tr_ialdR (o := o0) (k := 54) I84 q100 t_a101 (by decide) d_TrustDeskModel_failsBy_58 (vp_in_iff.mpr (by have := R89.1 32 _ _ rfl; have := R89.1 53 _ _ rfl; omega)) (fun v102 e103 => ?_)
          have := R89.a (k := 54) rfl (x1 : Int32).toNatClampNeg
          have := K94 x1.toNatClampNeg (by have := mz_nat9 (i := x1) (by have := R89.1 32 _ _ rfl; have := R89.1 53 _ _ rfl; omega); omega) (by have := mz_nat9 (i := x1) (by have := R89.1 32 _ _ rfl; have := R89.1 53 _ _ rfl; omega); omega)
          refine mv_iconst (v := 1) d_TrustDeskModel_failsBy_59 (by decide) ?_
          have := mz_hi v102
          refine mv_icmp_neZ (tgt := 79) (a := v102.toInt) (b := 1) d_TrustDeskModel_failsBy_60 (by decide) rfl (by decide) (fun b104 => ?_) (fun b104 => ?_)
          · refine mv_aload_n d_TrustDeskModel_failsBy_79 rfl rfl ?_
            refine mv_iload_n d_TrustDeskModel_failsBy_80 rfl rfl ?_
            obtain ⟨_, b111, -⟩ := I84.1 _ _ t90
            refine mv_callV (kc' := 0) (ks' := 0) (As := [.int x1]) (st9 := [.int x1, .ref o0]) d_TrustDeskModel_failsBy_81 lV_TrustDeskModel_512 b111 rfl (tc_TrustDeskModel_against_x (d := (d + 3)) (x9 := x9) (o0 := o0) (x1 := x1) t90 (by have := R89.1 32 _ _ rfl; have := R89.1 53 _ _ rfl; omega) R89 I84.start) rfl (Nat.le_of_ble_eq_true rfl) (Nat.le_of_ble_eq_true rfl) (Nat.le_of_ble_eq_true rfl) (hst := rfl) (fun b105r M106 n107 b105 => ?_)
            obtain ⟨T108, J109, v112, rfl, R113⟩ := b105
            have I110 := I84.call J109 (tm_sub (by decide)) (Or.inl rfl)
            have t114 := J109.up t90
            have z115 := (rv_c I84 J109 (I84.up h_o0) (k := 32) rfl).trans z91
            have z116 := (rv_c I84 J109 (I84.up h_o0) (k := 53) rfl).trans z92
            have K117 : rC M106 o0 44 := K93.same (sA_c I84 J109 (I84.up h_o0) (by decide +kernel)) (sF_c I84 J109 (I84.up h_o0) (by decide +kernel))
            have K118 : rX M106 o0 := K94.same (sA_c I84 J109 (I84.up h_o0) (by decide +kernel)) (sF_c I84 J109 (I84.up h_o0) (by decide +kernel))
            have K119 : v10.toInt = 1 → rCB M106 o0 x1.toNatClampNeg := (fun h9 => (K95 h9).same (sA_c I84 J109 (I84.up h_o0) (by decide +kernel)) (sF_c I84 J109 (I84.up h_o0) (by decide +kernel)))
            clear z91 z92
            have q120 := J109.keep t90 (by decide) q96
            have q121 := J109.keep t90 (by decide) q97
            have t122 := J109.up t98
            have q123 := J109.keep t90 (by decide) q100
            have t124 := J109.up t_a101
            have := mz_hi v112
            refine mv_if_leZ (tgt := 91) (a := v112.toInt) d_TrustDeskModel_failsBy_84 (by decide) rfl (fun b125 => ?_) (fun b125 => ?_)
            · refine mv_iconst (v := 0) d_TrustDeskModel_failsBy_91 (by decide) ?_
              exact mv_iret d_TrustDeskModel_failsBy_92 rfl (by first | rfl | decide) ⟨_, I110, _, rfl, R113, (fun _ => K119 (by omega))⟩
            · refine mv_iconst (v := 5) d_TrustDeskModel_failsBy_87 (by decide) ?_
              refine mv_goto (tgt := 92) d_TrustDeskModel_failsBy_88 (by decide) ?_
              exact mv_iret d_TrustDeskModel_failsBy_92 rfl (by first | rfl | decide) ⟨_, I110, _, rfl, R113, (fun h9 => absurd h9 (by decide))⟩
          · refine mv_aload_n d_TrustDeskModel_failsBy_63 rfl rfl ?_
            refine mv_iload_n d_TrustDeskModel_failsBy_64 rfl rfl ?_
            refine mv_aload_n d_TrustDeskModel_failsBy_65 rfl rfl ?_
            obtain ⟨a127, q126, t_a127⟩ := tm_atR I84 t90 (k := 56) rfl
            refine tr_getK q126 d_TrustDeskModel_failsBy_66 f_TrustDeskModel_128_13 ?_
            refine mv_iload_n d_TrustDeskModel_failsBy_69 rfl rfl ?_
            refine tr_ialdR (o := o0) (k := 56) I84 q126 t_a127 (by decide) d_TrustDeskModel_failsBy_70 (vp_in_iff.mpr (by have := R89.1 32 _ _ rfl; have := R89.1 53 _ _ rfl; omega)) (fun v128 e129 => ?_)
            have := K94 x1.toNatClampNeg (by have := mz_nat9 (i := x1) (by have := R89.1 32 _ _ rfl; have := R89.1 53 _ _ rfl; omega); omega) (by have := mz_nat9 (i := x1) (by have := R89.1 32 _ _ rfl; have := R89.1 53 _ _ rfl; omega); omega)
            obtain ⟨_, b136, -⟩ := I84.1 _ _ t90
            refine mv_callV (kc' := 0) (ks' := 0) (As := [.int x1, .int v128]) (st9 := [.int v128, .int x1, .ref o0]) d_TrustDeskModel_failsBy_71 lV_TrustDeskModel_530 b136 rfl (tc_TrustDeskModel_lacksYes_x (d := (d + 3)) (x9 := x9) (o0 := o0) (x1 := x1) (x2 := v128) t90 (by have := R89.1 32 _ _ rfl; have := R89.1 53 _ _ rfl; omega) (by have := R89.1 32 _ _ rfl; have := R89.1 53 _ _ rfl; omega) R89 I84.start) rfl (Nat.le_of_ble_eq_true rfl) (Nat.le_of_ble_eq_true rfl) (Nat.le_of_ble_eq_true rfl) (hst := rfl) (fun b130r M131 n132 b130 => ?_)
            obtain ⟨T133, J134, v137, rfl, b138, b139, R140⟩ := b130
            have I135 := I84.call J134 (tm_sub (by decide)) (Or.inl rfl)
            have t141 := J134.up t90
            have z142 := (rv_c I84 J134 (I84.up h_o0) (k := 32) rfl).trans z91
            have z143 := (rv_c I84 J134 (I84.up h_o0) (k := 53) rfl).trans z92
            have K144 : rC M131 o0 44 := K93.same (sA_c I84 J134 (I84.up h_o0) (by decide +kernel)) (sF_c I84 J134 (I84.up h_o0) (by decide +kernel))
            have K145 : rX M131 o0 := K94.same (sA_c I84 J134 (I84.up h_o0) (by decide +kernel)) (sF_c I84 J134 (I84.up h_o0) (by decide +kernel))
            have K146 : v10.toInt = 1 → rCB M131 o0 x1.toNatClampNeg := (fun h9 => (K95 h9).same (sA_c I84 J134 (I84.up h_o0) (by decide +kernel)) (sF_c I84 J134 (I84.up h_o0) (by decide +kernel)))
            clear z91 z92
            have q147 := J134.keep t90 (by decide) q96
            have q148 := J134.keep t90 (by decide) q97
            have t149 := J134.up t98
            have q150 := J134.keep t90 (by decide) q100
            have t151 := J134.up t_a101
            have q152 := J134.keep t90 (by decide) q126
            have t153 := J134.up t_a127
            have := mz_hi v137
            refine mv_if_eqZ (tgt := 79) (a := v137.toInt) d_TrustDeskModel_failsBy_74 (by decide) rfl (fun b154 => ?_) (fun b154 => ?_)
            · refine mv_aload_n d_TrustDeskModel_failsBy_79 rfl rfl ?_
              refine mv_iload_n d_TrustDeskModel_failsBy_80 rfl rfl ?_
              obtain ⟨_, b161, -⟩ := I135.1 _ _ t141
              refine mv_callV (kc' := 0) (ks' := 0) (As := [.int x1]) (st9 := [.int x1, .ref o0]) d_TrustDeskModel_failsBy_81 lV_TrustDeskModel_512 b161 rfl (tc_TrustDeskModel_against_x (d := (d + 3)) (x9 := x9) (o0 := o0) (x1 := x1) t141 (by have := R140.1 32 _ _ rfl; have := R140.1 53 _ _ rfl; omega) R140 I135.start) rfl (Nat.le_of_ble_eq_true rfl) (Nat.le_of_ble_eq_true rfl) (Nat.le_of_ble_eq_true rfl) (hst := rfl) (fun b155r M156 n157 b155 => ?_)
              obtain ⟨T158, J159, v162, rfl, R163⟩ := b155
              have I160 := I135.call J159 (tm_sub (by decide)) (Or.inl rfl)
              have t164 := J159.up t141
              have z165 := (rv_c I135 J159 (I135.up h_o0) (k := 32) rfl).trans z142
              have z166 := (rv_c I135 J159 (I135.up h_o0) (k := 53) rfl).trans z143
              have K167 : rC M156 o0 44 := K144.same (sA_c I135 J159 (I135.up h_o0) (by decide +kernel)) (sF_c I135 J159 (I135.up h_o0) (by decide +kernel))
              have K168 : rX M156 o0 := K145.same (sA_c I135 J159 (I135.up h_o0) (by decide +kernel)) (sF_c I135 J159 (I135.up h_o0) (by decide +kernel))
              have K169 : v10.toInt = 1 → rCB M156 o0 x1.toNatClampNeg := (fun h9 => (K146 h9).same (sA_c I135 J159 (I135.up h_o0) (by decide +kernel)) (sF_c I135 J159 (I135.up h_o0) (by decide +kernel)))
              clear z142 z143
              have q170 := J159.keep t141 (by decide) q147
              have q171 := J159.keep t141 (by decide) q148
              have t172 := J159.up t149
              have q173 := J159.keep t141 (by decide) q150
              have t174 := J159.up t151
              have q175 := J159.keep t141 (by decide) q152
              have t176 := J159.up t153
              have := mz_hi v162
              refine mv_if_leZ (tgt := 91) (a := v162.toInt) d_TrustDeskModel_failsBy_84 (by decide) rfl (fun b177 => ?_) (fun b177 => ?_)
              · refine mv_iconst (v := 0) d_TrustDeskModel_failsBy_91 (by decide) ?_
                exact mv_iret d_TrustDeskModel_failsBy_92 rfl (by first | rfl | decide) ⟨_, I160, _, rfl, R163, (fun _ => K169 (by omega))⟩
              · refine mv_iconst (v := 5) d_TrustDeskModel_failsBy_87 (by decide) ?_
                refine mv_goto (tgt := 92) d_TrustDeskModel_failsBy_88 (by decide) ?_
                exact mv_iret d_TrustDeskModel_failsBy_92 rfl (by first | rfl | decide) ⟨_, I160, _, rfl, R163, (fun h9 => absurd h9 (by decide))⟩
            · refine mv_iconst (v := 4) d_TrustDeskModel_failsBy_77 (by decide) ?_
              exact mv_iret d_TrustDeskModel_failsBy_78 rfl (by first | rfl | decide) ⟨_, I135, _, rfl, R140, (fun h9 => absurd h9 (by decide))⟩
      · refine mv_iconst (v := 3) d_TrustDeskModel_failsBy_37 (by decide) ?_
        exact mv_iret d_TrustDeskModel_failsBy_38 rfl (by first | rfl | decide) ⟨_, I62, _, rfl, R65, (fun h9 => absurd h9 (by decide))⟩
    · refine mv_iconst (v := 2) d_TrustDeskModel_failsBy_18 (by decide) ?_
      exact mv_iret d_TrustDeskModel_failsBy_19 rfl (by first | rfl | decide) ⟨_, I27, _, rfl, R32, (fun h9 => absurd h9 (by decide))⟩
  · refine mv_iconst (v := 1) d_TrustDeskModel_failsBy_8 (by decide) ?_
    exact mv_iret d_TrustDeskModel_failsBy_9 rfl (by first | rfl | decide) ⟨_, I8, _, rfl, R13, (fun h9 => absurd h9 (by decide))⟩
