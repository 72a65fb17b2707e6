section PNE
variable {b : Nat → Int} {n : Nat} {s t u : p_S}
theorem p_ov_f (h : s.1 ≠ 0) : p_ov b n s = s := if_neg fun h9 => h h9.1
theorem p_nea_e (h : p_wi b n 0 = 26) : p_nea b n = p_ov b n (p_cl b n 10 (0, [], (0, 0, 0))).2 := by
  have e : (p_cl b n 10 (0, [], (0, 0, 0))).2 = p_sg b n 59 (p_en1 b n 10 [] (p_nx (0, 0, 0))) := by
    unfold p_cl
    rw [if_pos rfl, if_pos (Or.inl h), if_neg (by intro h8; rcases h8 with h8 | h8; (exact absurd h8 (by decide)); exact absurd h8.2 (by decide)), if_pos h]
  rw [e]
  unfold p_nea
  rw [if_pos h]
theorem p_nea_0 (e0 : (0, 0, 0) = s) (h : p_wi b n s.2.2 ≠ 26) (e1 : p_fl b n 1 s = t) : p_nea b n = t := by
  subst e0
  subst e1
  unfold p_nea
  rw [if_neg h]
  exact p_ov_f (by unfold p_fl; rw [if_pos rfl]; exact (by decide : (1 : Int) ≠ 0))
theorem p_nea_f (e0 : (0, 0, 0) = s) (h : p_wi b n s.2.2 = 26) (e1 : (p_cl b n 10 (0, [], s)).2 = t) (h1 : t.1 ≠ 0) : p_nea b n = t := by
  subst e0
  rw [p_nea_e h, e1]
  exact p_ov_f h1
theorem p_nea_o (e0 : (0, 0, 0) = s) (h : p_wi b n s.2.2 = 26) (e1 : (p_cl b n 10 (0, [], s)).2 = t) (h1 : p_ki b n t.2.2 = 0) : p_nea b n = t := by
  subst e0
  rw [p_nea_e h, e1]
  exact if_neg fun h9 => h9.2 h1
theorem p_nea_m (e0 : (0, 0, 0) = s) (h : p_wi b n s.2.2 = 26) (e1 : (p_cl b n 10 (0, [], s)).2 = t) (h1 : t.1 = 0) (h2 : p_ki b n t.2.2 ≠ 0) (e2 : p_fl b n 1 t = u) : p_nea b n = u := by
  subst e0
  rw [p_nea_e h, e1, ← e2]
  exact if_pos ⟨h1, h2⟩
end PNE
abbrev kY_TrustDeskModel_near : mj_Y := (⟨"TrustDeskModel", "near", "(I)I"⟩, prog_14_method_56_code, 3, (Option.some Jvm.ClassFile.FieldType.int))
theorem d_TrustDeskModel_near_0 : decode kY_TrustDeskModel_near.2.1 0 = .ok (.aload_n 0, 1) := by decide +kernel
theorem d_TrustDeskModel_near_1 : decode kY_TrustDeskModel_near.2.1 1 = .ok (.iconst 0, 1) := by decide +kernel
theorem d_TrustDeskModel_near_2 : decode kY_TrustDeskModel_near.2.1 2 = .ok (.putfield 1, 3) := by decide +kernel
theorem d_TrustDeskModel_near_5 : decode kY_TrustDeskModel_near.2.1 5 = .ok (.iload_n 1, 1) := by decide +kernel
theorem d_TrustDeskModel_near_6 : decode kY_TrustDeskModel_near.2.1 6 = .ok (.i2l, 1) := by decide +kernel
theorem d_TrustDeskModel_near_7 : decode kY_TrustDeskModel_near.2.1 7 = .ok (.lconst 0, 1) := by decide +kernel
theorem d_TrustDeskModel_near_8 : decode kY_TrustDeskModel_near.2.1 8 = .ok (.ldc2_w 433, 3) := by decide +kernel
theorem k_TrustDeskModel_433 : Cond.constantLong "TrustDeskModel" 433 255 ∈ mj_T := (mj_in1 (List.mem_of_getElem? (i := 1825) (by decide +kernel)) rfl)
theorem d_TrustDeskModel_near_11 : decode kY_TrustDeskModel_near.2.1 11 = .ok (.invokestatic 169, 3) := by decide +kernel
theorem d_TrustDeskModel_near_14 : decode kY_TrustDeskModel_near.2.1 14 = .ok (.ifCond .eq 12, 3) := by decide +kernel
theorem d_TrustDeskModel_near_26 : decode kY_TrustDeskModel_near.2.1 26 = .ok (.iconst (-1), 1) := by decide +kernel
theorem d_TrustDeskModel_near_27 : decode kY_TrustDeskModel_near.2.1 27 = .ok (.ireturn, 1) := by decide +kernel
theorem d_TrustDeskModel_near_17 : decode kY_TrustDeskModel_near.2.1 17 = .ok (.aload_n 0, 1) := by decide +kernel
theorem d_TrustDeskModel_near_18 : decode kY_TrustDeskModel_near.2.1 18 = .ok (.getfield 435, 3) := by decide +kernel
theorem f_TrustDeskModel_435_13 : mj_fl "TrustDeskModel" 435 13 49 := ⟨kR_TrustDeskModel, kF_TrustDeskModel, 72, "TrustDeskModel", rfl, kg_13, by decide, (mj_in1 (List.mem_of_getElem? (i := 1435) (by decide +kernel)) rfl), Or.inl rfl⟩
theorem d_TrustDeskModel_near_21 : decode kY_TrustDeskModel_near.2.1 21 = .ok (.bipush 12, 2) := by decide +kernel
theorem d_TrustDeskModel_near_23 : decode kY_TrustDeskModel_near.2.1 23 = .ok (.if_icmp .ne 5, 3) := by decide +kernel
theorem d_TrustDeskModel_near_28 : decode kY_TrustDeskModel_near.2.1 28 = .ok (.aload_n 0, 1) := by decide +kernel
theorem d_TrustDeskModel_near_29 : decode kY_TrustDeskModel_near.2.1 29 = .ok (.iconst 0, 1) := by decide +kernel
theorem d_TrustDeskModel_near_30 : decode kY_TrustDeskModel_near.2.1 30 = .ok (.invokevirtual 381, 3) := by decide +kernel
theorem d_TrustDeskModel_near_33 : decode kY_TrustDeskModel_near.2.1 33 = .ok (.aload_n 0, 1) := by decide +kernel
theorem d_TrustDeskModel_near_34 : decode kY_TrustDeskModel_near.2.1 34 = .ok (.ldc_w 336, 3) := by decide +kernel
theorem d_TrustDeskModel_near_37 : decode kY_TrustDeskModel_near.2.1 37 = .ok (.invokevirtual 244, 3) := by decide +kernel
theorem d_TrustDeskModel_near_40 : decode kY_TrustDeskModel_near.2.1 40 = .ok (.ifCond .eq 10, 3) := by decide +kernel
theorem d_TrustDeskModel_near_50 : decode kY_TrustDeskModel_near.2.1 50 = .ok (.aload_n 0, 1) := by decide +kernel
theorem d_TrustDeskModel_near_51 : decode kY_TrustDeskModel_near.2.1 51 = .ok (.iconst 1, 1) := by decide +kernel
theorem d_TrustDeskModel_near_52 : decode kY_TrustDeskModel_near.2.1 52 = .ok (.invokevirtual 240, 3) := by decide +kernel
theorem d_TrustDeskModel_near_55 : decode kY_TrustDeskModel_near.2.1 55 = .ok (.aload_n 0, 1) := by decide +kernel
theorem d_TrustDeskModel_near_56 : decode kY_TrustDeskModel_near.2.1 56 = .ok (.invokevirtual 230, 3) := by decide +kernel
theorem d_TrustDeskModel_near_59 : decode kY_TrustDeskModel_near.2.1 59 = .ok (.ifCond .eq 15, 3) := by decide +kernel
theorem d_TrustDeskModel_near_74 : decode kY_TrustDeskModel_near.2.1 74 = .ok (.aload_n 0, 1) := by decide +kernel
theorem d_TrustDeskModel_near_75 : decode kY_TrustDeskModel_near.2.1 75 = .ok (.bipush 32, 2) := by decide +kernel
theorem d_TrustDeskModel_near_77 : decode kY_TrustDeskModel_near.2.1 77 = .ok (.aload_n 0, 1) := by decide +kernel
theorem d_TrustDeskModel_near_78 : decode kY_TrustDeskModel_near.2.1 78 = .ok (.getfield 435, 3) := by decide +kernel
theorem d_TrustDeskModel_near_81 : decode kY_TrustDeskModel_near.2.1 81 = .ok (.iadd, 1) := by decide +kernel
theorem d_TrustDeskModel_near_82 : decode kY_TrustDeskModel_near.2.1 82 = .ok (.invokevirtual 388, 3) := by decide +kernel
theorem d_TrustDeskModel_near_85 : decode kY_TrustDeskModel_near.2.1 85 = .ok (.istore_n 2, 1) := by decide +kernel
theorem d_TrustDeskModel_near_86 : decode kY_TrustDeskModel_near.2.1 86 = .ok (.iload_n 2, 1) := by decide +kernel
theorem d_TrustDeskModel_near_87 : decode kY_TrustDeskModel_near.2.1 87 = .ok (.ifCond .ge 5, 3) := by decide +kernel
theorem d_TrustDeskModel_near_92 : decode kY_TrustDeskModel_near.2.1 92 = .ok (.aload_n 0, 1) := by decide +kernel
theorem d_TrustDeskModel_near_93 : decode kY_TrustDeskModel_near.2.1 93 = .ok (.getfield 116, 3) := by decide +kernel
theorem f_TrustDeskModel_116_13 : mj_fl "TrustDeskModel" 116 13 50 := ⟨kR_TrustDeskModel, kF_TrustDeskModel, 72, "TrustDeskModel", rfl, kg_13, by decide, (mj_in1 (List.mem_of_getElem? (i := 1436) (by decide +kernel)) rfl), Or.inl rfl⟩
theorem d_TrustDeskModel_near_96 : decode kY_TrustDeskModel_near.2.1 96 = .ok (.aload_n 0, 1) := by decide +kernel
theorem d_TrustDeskModel_near_97 : decode kY_TrustDeskModel_near.2.1 97 = .ok (.getfield 435, 3) := by decide +kernel
theorem d_TrustDeskModel_near_100 : decode kY_TrustDeskModel_near.2.1 100 = .ok (.iload_n 1, 1) := by decide +kernel
theorem d_TrustDeskModel_near_101 : decode kY_TrustDeskModel_near.2.1 101 = .ok (.iastore, 1) := by decide +kernel
theorem d_TrustDeskModel_near_102 : decode kY_TrustDeskModel_near.2.1 102 = .ok (.aload_n 0, 1) := by decide +kernel
theorem d_TrustDeskModel_near_103 : decode kY_TrustDeskModel_near.2.1 103 = .ok (.dup, 1) := by decide +kernel
theorem d_TrustDeskModel_near_104 : decode kY_TrustDeskModel_near.2.1 104 = .ok (.getfield 435, 3) := by decide +kernel
theorem d_TrustDeskModel_near_107 : decode kY_TrustDeskModel_near.2.1 107 = .ok (.iconst 1, 1) := by decide +kernel
theorem d_TrustDeskModel_near_108 : decode kY_TrustDeskModel_near.2.1 108 = .ok (.iadd, 1) := by decide +kernel
theorem d_TrustDeskModel_near_109 : decode kY_TrustDeskModel_near.2.1 109 = .ok (.putfield 435, 3) := by decide +kernel
theorem p_TrustDeskModel_435_13 : mj_fp "TrustDeskModel" 435 13 49 (kt_TrustDeskModel 49) false := ⟨kR_TrustDeskModel, kF_TrustDeskModel, 72, "TrustDeskModel", kt_TrustDeskModel, rfl, kg_13, by decide, (mj_in1 (List.mem_of_getElem? (i := 1435) (by decide +kernel)) rfl), Or.inl rfl, kto_TrustDeskModel, kn_TrustDeskModel, rfl, rfl, fun h => by cases h⟩
theorem d_TrustDeskModel_near_112 : decode kY_TrustDeskModel_near.2.1 112 = .ok (.aload_n 0, 1) := by decide +kernel
theorem d_TrustDeskModel_near_113 : decode kY_TrustDeskModel_near.2.1 113 = .ok (.getfield 435, 3) := by decide +kernel
theorem d_TrustDeskModel_near_116 : decode kY_TrustDeskModel_near.2.1 116 = .ok (.iconst 1, 1) := by decide +kernel
theorem d_TrustDeskModel_near_117 : decode kY_TrustDeskModel_near.2.1 117 = .ok (.isub, 1) := by decide +kernel
theorem d_TrustDeskModel_near_118 : decode kY_TrustDeskModel_near.2.1 118 = .ok (.ireturn, 1) := by decide +kernel
theorem d_TrustDeskModel_near_90 : decode kY_TrustDeskModel_near.2.1 90 = .ok (.iload_n 2, 1) := by decide +kernel
theorem d_TrustDeskModel_near_91 : decode kY_TrustDeskModel_near.2.1 91 = .ok (.ireturn, 1) := by decide +kernel
theorem d_TrustDeskModel_near_43 : decode kY_TrustDeskModel_near.2.1 43 = .ok (.aload_n 0, 1) := by decide +kernel
theorem d_TrustDeskModel_near_44 : decode kY_TrustDeskModel_near.2.1 44 = .ok (.invokevirtual 425, 3) := by decide +kernel
theorem lV_TrustDeskModel_425 : mj_lV "TrustDeskModel" 425 kY_TrustDeskModel_readClause 0 := ⟨⟨(mj_in1 (List.mem_of_getElem? (i := 1795) (by decide +kernel)) rfl), (mj_in1 (List.mem_of_getElem? (i := 10) (by decide +kernel)) rfl), (mj_in1 (List.mem_of_getElem? (i := 1798) (by decide +kernel)) rfl), by decide, rfl, by decide⟩, (mj_in1 (List.mem_of_getElem? (i := 1797) (by decide +kernel)) rfl), (mj_in (List.mem_append_left _ (List.mem_of_getElem? (i := 106) (by decide +kernel))) rfl)⟩
theorem d_TrustDeskModel_near_47 : decode kY_TrustDeskModel_near.2.1 47 = .ok (.goto 8, 3) := by decide +kernel
theorem d_TrustDeskModel_near_62 : decode kY_TrustDeskModel_near.2.1 62 = .ok (.aload_n 0, 1) := by decide +kernel
theorem d_TrustDeskModel_near_63 : decode kY_TrustDeskModel_near.2.1 63 = .ok (.getfield 198, 3) := by decide +kernel
theorem d_TrustDeskModel_near_66 : decode kY_TrustDeskModel_near.2.1 66 = .ok (.ifCond .eq 8, 3) := by decide +kernel
theorem d_TrustDeskModel_near_69 : decode kY_TrustDeskModel_near.2.1 69 = .ok (.aload_n 0, 1) := by decide +kernel
theorem d_TrustDeskModel_near_70 : decode kY_TrustDeskModel_near.2.1 70 = .ok (.iconst 1, 1) := by decide +kernel
theorem d_TrustDeskModel_near_71 : decode kY_TrustDeskModel_near.2.1 71 = .ok (.invokevirtual 240, 3) := by decide +kernel
def w_TrustDeskModel_near_x : List Nat := [1300, 1314, 1315, 1316, 1317, 1318, 1319, 1320, 1321, 1322, 1323, 1324, 1349, 20004, 20005, 20006, 20007, 20008, 20009, 20010, 20011, 20012, 20025, 20026, 20050]
set_option maxHeartbeats 100000000 in theorem tc_TrustDeskModel_near_x {g : mj_G} {l : Launch} {d : Nat} {T0 : tm_H} {M0 : mj_M} {n0 x9 : Nat} {o0 : Nat} {x1 : Int32} (h_o0 : T0 o0 = some (0, 13, 0)) (yR : rI M0 o0) (yC : rC M0 o0 44) {pb : Nat → Int} {pn : Nat} (yXT : pX M0 o0 pb pn) (I0 : tm_I tm_FT (tm_in w_TrustDeskModel_near_x) x9 T0 M0 n0 T0 M0 n0) : mj_Met g l kY_TrustDeskModel_near (d + 27) [.ref o0, .int x1] M0 n0 0 0 (tm_Q tm_FT (tm_in w_TrustDeskModel_near_x) x9 T0 M0 n0 (fun r _ M => ∃ v : Int32, r = some (.int v) ∧ rI M o0 ∧ (rC M o0 44) ∧ (rv M0 o0 49 ≤ rv M o0 49) ∧ ((v.toInt = -1 ∧ ¬ (0 ≤ x1.toInt ∧ x1.toInt ≤ 255 ∧ rv M0 o0 49 ≠ 12) ∧ rv M o0 14 = rv M0 o0 14 ∧ rv M o0 21 = rv M0 o0 21 ∧ rv M o0 49 = rv M0 o0 49) ∨ ((0 ≤ x1.toInt ∧ x1.toInt ≤ 255 ∧ rv M0 o0 49 ≠ 12) ∧ rv M o0 14 = 0 ∧ (((p_nea pb pn).1 = 0 ∧ v.toInt = rv M0 o0 49 ∧ rv M o0 21 = -1 ∧ rv M o0 49 = rv M0 o0 49 + 1) ∨ ((p_nea pb pn).1 ≠ 0 ∧ v.toInt = -1 - (p_nea pb pn).1 ∧ rv M o0 21 = ((p_nea pb pn).2.1 : Int) ∧ rv M o0 49 = rv M0 o0 49)))))) := by
  refine mj_enter (by decide) (Nat.le_of_ble_eq_true rfl) ?_
  have K1 : rC M0 o0 44 := yC
  refine mv_aload_n d_TrustDeskModel_near_0 rfl rfl ?_
  refine mv_iconst (v := 0) d_TrustDeskModel_near_1 (by decide) ?_
  refine tr_putR (k := 0) I0 yR h_o0 rfl ⟨_, rfl⟩ (fun _ h => by cases h) rfl (fun lo hi h => by cases h) (Or.inl (by decide)) d_TrustDeskModel_near_2 p_TrustDeskModel_1_13 rfl rfl (fun M2 I3 q4 K5 R6 A7 V8 => ?_)
  have z9 := (V8 15 (by decide))
  have z10 := (V8 16 (by decide))
  have z11 := (V8 17 (by decide))
  have z12 := (V8 19 (by decide))
  have z13 := (V8 22 (by decide))
  have z14 := (V8 24 (by decide))
  have z15 := (V8 27 (by decide))
  have z16 := (V8 32 (by decide))
  have z17 := (V8 49 (by decide))
  have z18 := (V8 14 (by decide))
  have z19 := (V8 21 (by decide))
  have z20 := (A7 5 (by decide) 44)
  have z21 := (A7 6 (by decide) 44)
  have K22 : rC M2 o0 44 := K1.same (sA_f A7 (by decide)) (sF_f V8 (by decide))
  have K23 : pX M2 o0 pb pn := yXT.same (sA_f A7 (by decide)) (sF_f V8 (by decide))
  refine mv_iload_n d_TrustDeskModel_near_5 rfl rfl ?_
  refine mv_i2l (v := x1.toInt64) d_TrustDeskModel_near_6 rfl ?_
  refine mv_lconst (v := 0) d_TrustDeskModel_near_7 (by decide) ?_
  refine mv_ldc2 d_TrustDeskModel_near_8 k_TrustDeskModel_433 ?_
  refine mv_callS (kc1 := 0) (ks1 := 0) (kc' := 0) (ks' := 0) (As := [.long x1.toInt64, .long 0, .long 255]) (st9 := [.long 255, .long 0, .long x1.toInt64]) d_TrustDeskModel_near_11 lS_TrustDeskModel_169 (mj_enter (by decide) (Nat.le_of_ble_eq_true rfl) ?_) rfl (Nat.le_of_ble_eq_true rfl) (Nat.le_of_ble_eq_true rfl) (Nat.le_of_ble_eq_true rfl) (hst := rfl) (fun _ _ _ h => h)
  refine mv_lload_n d_TrustDeskModel_within_0 rfl rfl ?_
  refine mv_lload_n d_TrustDeskModel_within_1 rfl rfl ?_
  refine mv_lltZ (tgt := 17) (a := x1.toInt) (b := 0) d_TrustDeskModel_within_2 d_TrustDeskModel_within_3 (by decide) (mz_wide _) (by decide) (fun b24 => ?_) (fun b24 => ?_)
  · refine mv_iconst (v := 0) d_TrustDeskModel_within_17 (by decide) ?_
    refine mv_iret d_TrustDeskModel_within_18 rfl (by decide) ?_
    refine mv_if_eq_t (tgt := 26) d_TrustDeskModel_near_14 (by decide) (by decide) ?_
    refine mv_iconst (v := (-1)) d_TrustDeskModel_near_26 (by decide) ?_
    exact mv_iret d_TrustDeskModel_near_27 rfl (by first | rfl | decide) ⟨_, I3, _, rfl, R6, K22, (by have := R6.1 15 _ _ rfl; have := R6.1 16 _ _ rfl; have := R6.1 19 _ _ rfl; omega), (Or.inl ⟨by decide, by omega, z18, z19, z17⟩)⟩
  · refine mv_lload_n d_TrustDeskModel_within_6 rfl rfl ?_
    refine mv_lload d_TrustDeskModel_within_7 rfl ?_
    refine mv_lgtZ (tgt := 17) (a := x1.toInt) (b := 255) d_TrustDeskModel_within_9 d_TrustDeskModel_within_10 (by decide) (mz_wide _) (by decide) (fun b25 => ?_) (fun b25 => ?_)
    · refine mv_iconst (v := 0) d_TrustDeskModel_within_17 (by decide) ?_
      refine mv_iret d_TrustDeskModel_within_18 rfl (by decide) ?_
      refine mv_if_eq_t (tgt := 26) d_TrustDeskModel_near_14 (by decide) (by decide) ?_
      refine mv_iconst (v := (-1)) d_TrustDeskModel_near_26 (by decide) ?_
      exact mv_iret d_TrustDeskModel_near_27 rfl (by first | rfl | decide) ⟨_, I3, _, rfl, R6, K22, (by have := R6.1 15 _ _ rfl; have := R6.1 16 _ _ rfl; have := R6.1 19 _ _ rfl; omega), (Or.inl ⟨by decide, by omega, z18, z19, z17⟩)⟩
    · refine mv_iconst (v := 1) d_TrustDeskModel_within_13 (by decide) ?_
      refine mv_goto (tgt := 18) d_TrustDeskModel_within_14 (by decide) ?_
      refine mv_iret d_TrustDeskModel_within_18 rfl (by decide) ?_
      refine mv_if_eq_f (tgt := 26) d_TrustDeskModel_near_14 (by decide) (by decide) ?_
      refine mv_aload_n d_TrustDeskModel_near_17 rfl rfl ?_
      obtain ⟨v27, q26⟩ := tm_atI I3 h_o0 (k := 49) rfl
      refine tr_getK q26 d_TrustDeskModel_near_18 f_TrustDeskModel_435_13 ?_
      have := R6.f (k := 49) q26 rfl
      have := (tm_rv q26).symm.trans z17
      have := tm_rv q26
      refine mv_bipush (v := 12) d_TrustDeskModel_near_21 (by decide) ?_
      have := mz_hi v27
      refine mv_icmp_neZ (tgt := 28) (a := v27.toInt) (b := 12) d_TrustDeskModel_near_23 (by decide) rfl (by decide) (fun b28 => ?_) (fun b28 => ?_)
      · refine mv_aload_n d_TrustDeskModel_near_28 rfl rfl ?_
        refine mv_iconst (v := 0) d_TrustDeskModel_near_29 (by decide) ?_
        obtain ⟨_, b35, -⟩ := I3.1 _ _ h_o0
        have : (0 : Int32).toInt = 0 := by decide
        refine mv_callV (kc' := 0) (ks' := 0) (As := [.int 0]) (st9 := [.int 0, .ref o0]) d_TrustDeskModel_near_30 lV_TrustDeskModel_381 b35 rfl (tc_TrustDeskModel_starts_x (d := (d + 24)) (x9 := x9) (o0 := o0) (x1 := 0) h_o0 (by decide) R6 K23 I3.start) rfl (Nat.le_of_ble_eq_true rfl) (Nat.le_of_ble_eq_true rfl) (Nat.le_of_ble_eq_true rfl) (hst := rfl) (fun b29r M30 n31 b29 => ?_)
        obtain ⟨T32, J33, rfl, R36, f37, f38, f39, f40, f41, f42, f43⟩ := b29
        have I34 := I3.call J33 (tm_sub (by decide)) (Or.inl rfl)
        have t44 := J33.up h_o0
        have z45 := (rv_c I3 J33 (I3.up h_o0) (k := 27) rfl).trans z15
        have z46 := (rv_c I3 J33 (I3.up h_o0) (k := 32) rfl).trans z16
        have z47 := (rv_c I3 J33 (I3.up h_o0) (k := 49) rfl).trans z17
        have z48 := (rv_c I3 J33 (I3.up h_o0) (k := 14) rfl).trans z18
        have z49 := (rv_c I3 J33 (I3.up h_o0) (k := 21) rfl).trans z19
        have K50 : rC M30 o0 44 := K22.same (sA_c I3 J33 (I3.up h_o0) (by decide +kernel)) (sF_c I3 J33 (I3.up h_o0) (by decide +kernel))
        have K51 : pX M30 o0 pb pn := K23.same (sA_c I3 J33 (I3.up h_o0) (by decide +kernel)) (sF_c I3 J33 (I3.up h_o0) (by decide +kernel))
        have K52 : rW M30 o0 := rW.start f37 R36 f41 f42 f40
        rw [show (if (0 : Int32).toInt = 0 then (10 : Int) else 13) = 10 from by decide] at f43
        obtain ⟨s53, e54⟩ : ∃ s9 : p_S, (0, 0, 0) = s9 := ⟨_, rfl⟩
        rw [e54] at f43
        have := f43.w
        have : s53.1 = 0 := by rw [← e54]
        have : s53.2.2 = 0 := by rw [← e54]
        have K55 : pN M30 o0 pn [] := pN.nil (by have := f40; omega)
        have hG : Im (0 ≤ x1.toInt ∧ x1.toInt ≤ 255 ∧ rv M0 o0 49 ≠ 12) := Im.i (by omega)
        clear z15 z16 z17 z18 z19
        have q56 := J33.keep h_o0 (by decide) q4
        have q57 := J33.keep h_o0 (by decide) q26
        refine mv_aload_n d_TrustDeskModel_near_33 rfl rfl ?_
        refine mv_ldcSw (id := 42) (tx := "end") d_TrustDeskModel_near_34 (List.mem_of_getElem? (i := 32) rfl) ?_
        obtain ⟨_, b64, -⟩ := I34.1 _ _ t44
        refine mv_callV (kc' := 0) (ks' := 0) (As := [.ref 42]) (st9 := [.ref 42, .ref o0]) d_TrustDeskModel_near_37 lV_TrustDeskModel_244 b64 rfl (tc_TrustDeskModel_isWord_s1_42_x (d := (d + 22)) (x9 := x9) (o0 := o0) t44 R36 I34.start) rfl (Nat.le_of_ble_eq_true rfl) (Nat.le_of_ble_eq_true rfl) (Nat.le_of_ble_eq_true rfl) (hst := rfl) (fun b58r M59 n60 b58 => ?_)
        obtain ⟨T61, J62, v65, rfl, b66, b67, R68, f69, f70, f71⟩ := b58
        have I63 := I34.call J62 (tm_sub (by decide)) (Or.inl rfl)
        have t72 := J62.up t44
        replace f69 := Im.i f69
        replace f70 := Im.i f70
        replace f71 := Im.i f71
        have z73 := (rv_c I34 J62 (I34.up h_o0) (k := 15) rfl)
        have z74 := (rv_c I34 J62 (I34.up h_o0) (k := 16) rfl)
        have z75 := (rv_c I34 J62 (I34.up h_o0) (k := 17) rfl)
        have z76 := (rv_c I34 J62 (I34.up h_o0) (k := 19) rfl)
        have z77 := (rv_c I34 J62 (I34.up h_o0) (k := 22) rfl)
        have z78 := (rv_c I34 J62 (I34.up h_o0) (k := 24) rfl)
        have z79 := (rv_c I34 J62 (I34.up h_o0) (k := 27) rfl).trans z45
        have z80 := (rv_c I34 J62 (I34.up h_o0) (k := 32) rfl).trans z46
        have z81 := (rv_c I34 J62 (I34.up h_o0) (k := 49) rfl).trans z47
        have z82 := (rv_c I34 J62 (I34.up h_o0) (k := 14) rfl).trans z48
        have z83 := (rv_c I34 J62 (I34.up h_o0) (k := 21) rfl).trans z49
        have z84 := (ra_call I34 J62 (I34.up h_o0) (k := 5) rfl rfl rfl 44)
        have z85 := (ra_call I34 J62 (I34.up h_o0) (k := 6) rfl rfl rfl 44)
        have K86 : rC M59 o0 44 := K50.same (sA_c I34 J62 (I34.up h_o0) (by decide +kernel)) (sF_c I34 J62 (I34.up h_o0) (by decide +kernel))
        have K87 : rW M59 o0 := K52.same (sA_c I34 J62 (I34.up h_o0) (by decide +kernel)) (sF_c I34 J62 (I34.up h_o0) (by decide +kernel))
        have K88 : pN M59 o0 pn ([]) := K55.same (sA_c I34 J62 (I34.up h_o0) (by decide +kernel)) (sF_c I34 J62 (I34.up h_o0) (by decide +kernel))
        have K89 : v65.toInt = 1 → rwE M59 o0 := (fun h9 => (f70.o h9).same (sA_c I34 J62 (I34.up h_o0) (by decide)) (sF_c I34 J62 (I34.up h_o0) (by decide)))
        have Z990 : pO M59 o0 pb pn 10 s53 := f43.same (rE_hv I34 J62 (I34.up h_o0) 14 20 (by decide)) (rv_c I34 J62 (I34.up h_o0) (k := 23) rfl) (ra_call I34 J62 (I34.up h_o0) (k := 13) rfl rfl rfl)
        have d91 := Im.i (pO.w_26 f43 (by have := R36.1 15 _ _ rfl; have := R36.1 16 _ _ rfl; have := R36.1 19 _ _ rfl; omega) (Im.o f70) (Im.o f71) (by have := R36.1 15 _ _ rfl; have := R36.1 16 _ _ rfl; have := R36.1 19 _ _ rfl; omega))
        clear z45 z46 z47 z48 z49
        have q92 := J62.keep t44 (by decide) q56
        have q93 := J62.keep t44 (by decide) q57
        have := mz_hi v65
        refine mv_if_eqZ (tgt := 50) (a := v65.toInt) d_TrustDeskModel_near_40 (by decide) rfl (fun b94 => ?_) (fun b94 => ?_)
        · refine mv_aload_n d_TrustDeskModel_near_50 rfl rfl ?_
          refine mv_iconst (v := 1) d_TrustDeskModel_near_51 (by decide) ?_
          obtain ⟨_, b101, -⟩ := I63.1 _ _ t72
          have : (1 : Int32).toInt = 1 := by decide
          refine mv_callV (kc' := 0) (ks' := 0) (As := [.int 1]) (st9 := [.int 1, .ref o0]) d_TrustDeskModel_near_52 lV_TrustDeskModel_240 b101 rfl (tc_TrustDeskModel_fails_x (d := (d + 26)) (x9 := x9) (o0 := o0) (x1 := 1) t72 R68 (by decide) Z990 I63.start) rfl (Nat.le_of_ble_eq_true rfl) (Nat.le_of_ble_eq_true rfl) (Nat.le_of_ble_eq_true rfl) (hst := rfl) (fun b95r M96 n97 b95 => ?_)
          obtain ⟨T98, J99, rfl, R102, f103, f104⟩ := b95
          have I100 := I63.call J99 (tm_sub (by decide)) (Or.inl rfl)
          have t105 := J99.up t72
          have z106 := (rv_c I63 J99 (I63.up h_o0) (k := 15) rfl).trans z73
          have z107 := (rv_c I63 J99 (I63.up h_o0) (k := 16) rfl).trans z74
          have z108 := (rv_c I63 J99 (I63.up h_o0) (k := 17) rfl).trans z75
          have z109 := (rv_c I63 J99 (I63.up h_o0) (k := 22) rfl).trans z77
          have z110 := (rv_c I63 J99 (I63.up h_o0) (k := 24) rfl).trans z78
          have z111 := (rv_c I63 J99 (I63.up h_o0) (k := 27) rfl).trans z79
          have z112 := (rv_c I63 J99 (I63.up h_o0) (k := 32) rfl).trans z80
          have z113 := (rv_c I63 J99 (I63.up h_o0) (k := 49) rfl).trans z81
          have z114 := (rv_c I63 J99 (I63.up h_o0) (k := 14) rfl).trans z82
          have z115 := (rv_c I63 J99 (I63.up h_o0) (k := 21) rfl).trans z83
          have z116 := (ra_call I63 J99 (I63.up h_o0) (k := 5) rfl rfl rfl 44).trans z84
          have z117 := (ra_call I63 J99 (I63.up h_o0) (k := 6) rfl rfl rfl 44).trans z85
          have K118 : rC M96 o0 44 := K86.same (sA_c I63 J99 (I63.up h_o0) (by decide +kernel)) (sF_c I63 J99 (I63.up h_o0) (by decide +kernel))
          have K119 : rW M96 o0 := K87.fail (sF_c I63 J99 (I63.up h_o0) (by decide)) f103
          have K120 : pN M96 o0 pn ([]) := K88.same (sA_c I63 J99 (I63.up h_o0) (by decide +kernel)) (sF_c I63 J99 (I63.up h_o0) (by decide +kernel))
          have K121 : v65.toInt = 1 → rwE M96 o0 := (fun h9 => (K89 h9).same (sA_c I63 J99 (I63.up h_o0) (by decide +kernel)) (sF_c I63 J99 (I63.up h_o0) (by decide +kernel)))
          have K122 : rv M96 o0 19 = 0 → ra M96 o0 7 880 = 8 ∧ ra M96 o0 6 44 = 1 := (fun h9 => absurd h9 f103)
          rw [show (1 : Int32).toInt = 1 from by decide] at f104
          obtain ⟨s123, e124⟩ : ∃ s9 : p_S, p_fl pb pn 1 s53 = s9 := ⟨_, rfl⟩
          rw [e124] at f104
          have := f104.w
          clear z73 z74 z75 z77 z78 z79 z80 z81 z82 z83 z84 z85
          have q125 := J99.keep t72 (by decide) q92
          have q126 := J99.keep t72 (by decide) q93
          refine mv_aload_n d_TrustDeskModel_near_55 rfl rfl ?_
          obtain ⟨_, b127, -⟩ := I100.1 _ _ t105
          refine mv_callV (kc1 := 0) (ks1 := 0) (kc' := 0) (ks' := 0) (As := []) (st9 := [.ref o0]) d_TrustDeskModel_near_56 lV_TrustDeskModel_230 b127 rfl (mj_enter (by decide) (Nat.le_of_ble_eq_true rfl) ?_) rfl (Nat.le_of_ble_eq_true rfl) (Nat.le_of_ble_eq_true rfl) (Nat.le_of_ble_eq_true rfl) (hst := rfl) (fun _ _ _ h => h)
          refine mv_aload_n d_TrustDeskModel_isWell_0 rfl rfl ?_
          obtain ⟨v129, q128⟩ := tm_atI I100 t105 (k := 19) rfl
          refine tr_getK q128 d_TrustDeskModel_isWell_1 f_TrustDeskModel_224_13 ?_
          have := R102.f (k := 19) q128 rfl
          have := tm_rv q128
          refine mv_if_neZ (tgt := 11) (a := v129.toInt) d_TrustDeskModel_isWell_4 (by decide) rfl (fun b130 => ?_) (fun b130 => ?_)
          · refine mv_iconst (v := 0) d_TrustDeskModel_isWell_11 (by decide) ?_
            refine mv_iret d_TrustDeskModel_isWell_12 rfl (by decide) ?_
            refine mv_if_eq_t (tgt := 74) d_TrustDeskModel_near_59 (by decide) (by decide) ?_
            refine mv_aload_n d_TrustDeskModel_near_74 rfl rfl ?_
            refine mv_bipush (v := 32) d_TrustDeskModel_near_75 (by decide) ?_
            refine mv_aload_n d_TrustDeskModel_near_77 rfl rfl ?_
            refine tr_getK (k := 49) q126 d_TrustDeskModel_near_78 f_TrustDeskModel_435_13 ?_
            refine mv_iadd d_TrustDeskModel_near_81 ?_
            obtain ⟨_, b137, -⟩ := I100.1 _ _ t105
            have b138 : (32 + v27 : Int32).toInt = (32 + v27.toInt) := mz_add2 (by decide) rfl (by have := R102.1 15 _ _ rfl; have := R102.1 16 _ _ rfl; have := R102.1 19 _ _ rfl; omega) (by have := R102.1 15 _ _ rfl; have := R102.1 16 _ _ rfl; have := R102.1 19 _ _ rfl; omega)
            refine mv_callV (kc' := 0) (ks' := 0) (As := [.int (32 + v27)]) (st9 := [.int (32 + v27), .ref o0]) d_TrustDeskModel_near_82 lV_TrustDeskModel_388 b137 rfl (tc_TrustDeskModel_stops_x (d := (d + 25)) (x9 := x9) (o0 := o0) (x1 := (32 + v27)) t105 R102 (by have := R102.1 15 _ _ rfl; have := R102.1 16 _ _ rfl; have := R102.1 19 _ _ rfl; omega) f104 I100.start) rfl (Nat.le_of_ble_eq_true rfl) (Nat.le_of_ble_eq_true rfl) (Nat.le_of_ble_eq_true rfl) (hst := rfl) (fun b131r M132 n133 b131 => ?_)
            obtain ⟨T134, J135, v139, rfl, R140, f141, f142, f143, f144, f145⟩ := b131
            have I136 := I100.call J135 (tm_sub (by decide)) (Or.inl rfl)
            have t146 := J135.up t105
            replace f141 := Im.i f141
            replace f142 := Im.i f142
            have z147 := (rv_c I100 J135 (I100.up h_o0) (k := 15) rfl).trans z106
            have z148 := (rv_c I100 J135 (I100.up h_o0) (k := 16) rfl).trans z107
            have z149 := (rv_c I100 J135 (I100.up h_o0) (k := 17) rfl).trans z108
            have z150 := (rv_c I100 J135 (I100.up h_o0) (k := 19) rfl)
            have z151 := (rv_c I100 J135 (I100.up h_o0) (k := 22) rfl).trans z109
            have z152 := (rv_c I100 J135 (I100.up h_o0) (k := 24) rfl).trans z110
            have z153 := (rv_c I100 J135 (I100.up h_o0) (k := 27) rfl).trans z111
            have z154 := (rv_c I100 J135 (I100.up h_o0) (k := 32) rfl).trans z112
            have z155 := (rv_c I100 J135 (I100.up h_o0) (k := 49) rfl).trans z113
            have e156 : p_nea pb pn = s123 := p_nea_0 e54 (pW0 (Im.o d91) (by omega)) e124
            have z1 : (p_nea pb pn).1 = s123.1 := by rw [e156]
            have z3 : (p_nea pb pn).2.1 = s123.2.1 := by rw [e156]
            have K157 : pN M132 o0 pn ([]) := K120.same (sA_c I100 J135 (I100.up h_o0) (by decide +kernel)) (sF_c I100 J135 (I100.up h_o0) (by decide +kernel))
            have K158 : v65.toInt = 1 → rwE M132 o0 := (fun h9 => (K121 h9).same (sA_c I100 J135 (I100.up h_o0) (by decide +kernel)) (sF_c I100 J135 (I100.up h_o0) (by decide +kernel)))
            have K159 : (v139.toInt < 0 → rC M132 o0 44) ∧ (0 ≤ v139.toInt → rC M132 o0 ((32 + v27).toNatClampNeg)) := rC.st K118 R102 K119 (by have := mz_nat9 (i := (32 + v27)) (by have := R102.1 15 _ _ rfl; have := R102.1 16 _ _ rfl; have := R102.1 19 _ _ rfl; omega); have := R102.1 15 _ _ rfl; have := R102.1 16 _ _ rfl; have := R102.1 19 _ _ rfl; omega) (by unfold rU; have := mz_nat9 (i := (32 + v27)) (by have := R102.1 15 _ _ rfl; have := R102.1 16 _ _ rfl; have := R102.1 19 _ _ rfl; omega); have := R102.1 15 _ _ rfl; have := R102.1 16 _ _ rfl; have := R102.1 19 _ _ rfl; omega) f141 f142 (sA_c I100 J135 (I100.up h_o0) (by decide)) (sF_c I100 J135 (I100.up h_o0) (by decide))
            have K160 : 0 ≤ v139.toInt → ra M132 o0 7 (20 * (32 + v27).toNatClampNeg) = 8 := k8_of f141 f142 K122
            have g161 := Im.i (tl_st (tl_ge (R102.1 19 _ _ rfl) f104.w) f144 f145)
            clear f144 f145
            clear z106 z107 z108 z109 z110 z111 z112 z113
            have q162 := J135.keep t105 (by decide) q125
            have q163 := J135.keep t105 (by decide) q126
            have q164 := J135.keep t105 (by decide) q128
            refine mv_istore_n (lv' := [(2, .int v139), (0, .ref o0), (1, .int x1)]) d_TrustDeskModel_near_85 rfl (by decide) rfl ?_
            refine mv_iload_n d_TrustDeskModel_near_86 rfl rfl ?_
            have := mz_hi v139
            refine mv_if_geZ (tgt := 92) (a := v139.toInt) d_TrustDeskModel_near_87 (by decide) rfl (fun b165 => ?_) (fun b165 => ?_)
            · have K166 : rC M132 o0 ((32 + v27).toNatClampNeg) := K159.2 (by omega)
              obtain ⟨g167, g168⟩ := (Im.o g161).1 (by omega)
              refine mv_aload_n d_TrustDeskModel_near_92 rfl rfl ?_
              obtain ⟨a171, q170, t_a171⟩ := tm_atR I136 t146 (k := 50) rfl
              refine tr_getK q170 d_TrustDeskModel_near_93 f_TrustDeskModel_116_13 ?_
              refine mv_aload_n d_TrustDeskModel_near_96 rfl rfl ?_
              refine tr_getK (k := 49) q163 d_TrustDeskModel_near_97 f_TrustDeskModel_435_13 ?_
              refine mv_iload_n d_TrustDeskModel_near_100 rfl rfl ?_
              refine tr_iastR (k := 50) I136 R140 (I136.up h_o0) q170 t_a171 (by decide) (by decide) (fun lo hi h => by cases h) (Or.inl (by decide)) d_TrustDeskModel_near_101 (vp_in_iff.mpr (by have := R140.1 15 _ _ rfl; have := R140.1 16 _ _ rfl; have := R140.1 19 _ _ rfl; omega)) (fun M172 I173 K174 R175 E176 A177 V178 => ?_)
              have z179 := (V178 15).trans z147
              have z180 := (V178 16).trans z148
              have z181 := (V178 17).trans z149
              have z182 := (V178 19).trans z150
              have z183 := (V178 22).trans z151
              have z184 := (V178 24).trans z152
              have z185 := (V178 27).trans z153
              have z186 := (V178 32).trans z154
              have z187 := (V178 49).trans z155
              have z188 := (V178 14)
              have z189 := (V178 21)
              have z190 := (A177 5 (by decide) rfl 44)
              have z191 := (A177 6 (by decide) rfl 44)
              have K192 : pN M172 o0 pn ([]) := K157.same (sA_a A177 (by decide +kernel)) (sF_a V178)
              have K193 : v65.toInt = 1 → rwE M172 o0 := (fun h9 => (K158 h9).same (sA_a A177 (by decide +kernel)) (sF_a V178))
              have K194 : 0 ≤ v139.toInt → ra M172 o0 7 (20 * (32 + v27).toNatClampNeg) = 8 := (by have e1 := ((sA_a A177 (by decide +kernel)) : sA [7] _ _ _) 7 rfl; rw [e1]; exact K160)
              have K195 : rC M172 o0 ((32 + v27).toNatClampNeg) := K166.same (sA_a A177 (by decide +kernel)) (sF_a V178)
              clear z147 z148 z149 z151 z152 z153 z154 z155
              refine mv_aload_n d_TrustDeskModel_near_102 rfl rfl ?_
              refine mv_dup d_TrustDeskModel_near_103 rfl ?_
              refine tr_getK (k := 49) (K174 _ 13 49 _ q163) d_TrustDeskModel_near_104 f_TrustDeskModel_435_13 ?_
              refine mv_iconst (v := 1) d_TrustDeskModel_near_107 (by decide) ?_
              refine mv_iadd d_TrustDeskModel_near_108 ?_
              have b196 : (v27 + 1 : Int32).toInt = (v27.toInt + 1) := mz_add2 rfl (by decide) (by have := R175.1 15 _ _ rfl; have := R175.1 16 _ _ rfl; have := R175.1 19 _ _ rfl; omega) (by have := R175.1 15 _ _ rfl; have := R175.1 16 _ _ rfl; have := R175.1 19 _ _ rfl; omega)
              refine tr_putR (k := 49) I173 R175 t146 rfl ⟨_, rfl⟩ (fun _ h => by cases h) rfl (fun lo hi h => by cases h; have := R175.1 15 _ _ rfl; have := R175.1 16 _ _ rfl; have := R175.1 19 _ _ rfl; exact ⟨by show (0 : Int) ≤ (v27 + 1).toInt; omega, by show (v27 + 1).toInt ≤ (12 : Int); omega⟩) (Or.inl (by decide)) d_TrustDeskModel_near_109 p_TrustDeskModel_435_13 rfl rfl (fun M197 I198 q199 K200 R201 A202 V203 => ?_)
              have z204 := (V203 15 (by decide)).trans z179
              have z205 := (V203 16 (by decide)).trans z180
              have z206 := (V203 17 (by decide)).trans z181
              have z207 := (V203 19 (by decide)).trans z182
              have z208 := (V203 22 (by decide)).trans z183
              have z209 := (V203 24 (by decide)).trans z184
              have z210 := (V203 27 (by decide)).trans z185
              have z211 := (V203 32 (by decide)).trans z186
              have z212 := (V203 14 (by decide)).trans z188
              have z213 := (V203 21 (by decide)).trans z189
              have z214 := (A202 5 (by decide) 44).trans z190
              have z215 := (A202 6 (by decide) 44).trans z191
              have z216 : rv M197 o0 49 = (v27 + 1).toInt := tm_rv q199
              have K217 : pN M197 o0 pn ([]) := K192.same (sA_f A202 (by decide)) (sF_f V203 (by decide))
              have K218 : v65.toInt = 1 → rwE M197 o0 := (fun h9 => (K193 h9).same (sA_f A202 (by decide)) (sF_f V203 (by decide)))
              have K219 : 0 ≤ v139.toInt → ra M197 o0 7 (20 * (32 + v27).toNatClampNeg) = 8 := (by have e1 := ((sA_f A202 (by decide)) : sA [7] _ _ _) 7 rfl; rw [e1]; exact K194)
              have K220 : rC M197 o0 44 := rC.near K195 A202 V203 (by have := mz_nat9 (i := (32 + v27)) (by have := R175.1 15 _ _ rfl; have := R175.1 16 _ _ rfl; have := R175.1 19 _ _ rfl; omega); have := R175.1 15 _ _ rfl; have := R175.1 16 _ _ rfl; have := R175.1 19 _ _ rfl; omega) (by have := R175.1 15 _ _ rfl; have := R175.1 16 _ _ rfl; have := R175.1 19 _ _ rfl; omega) (by have := R175.1 15 _ _ rfl; have := R175.1 16 _ _ rfl; have := R175.1 19 _ _ rfl; omega) (K194 (by omega))
              clear z179 z180 z181 z183 z184 z185 z186 z188 z189 z190 z191
              refine mv_aload_n d_TrustDeskModel_near_112 rfl rfl ?_
              refine tr_getK (k := 49) q199 d_TrustDeskModel_near_113 f_TrustDeskModel_435_13 ?_
              refine mv_iconst (v := 1) d_TrustDeskModel_near_116 (by decide) ?_
              refine mv_isubv (v := v27) d_TrustDeskModel_near_117 (Int32.add_sub_cancel _ _) ?_
              exact mv_iret d_TrustDeskModel_near_118 rfl (by first | rfl | decide) ⟨_, I198, _, rfl, R201, K220, (by have := R201.1 15 _ _ rfl; have := R201.1 16 _ _ rfl; have := R201.1 19 _ _ rfl; omega), (Or.inr ⟨Im.o hG, by omega, Or.inl ⟨by omega, by omega, by omega, by omega⟩⟩)⟩
            · have K221 : rC M132 o0 44 := K159.1 (by omega)
              obtain ⟨g222, g223, g224⟩ := (Im.o g161).2 (by omega)
              refine mv_iload_n d_TrustDeskModel_near_90 rfl rfl ?_
              exact mv_iret d_TrustDeskModel_near_91 rfl (by first | rfl | decide) ⟨_, I136, _, rfl, R140, K221, (by have := R140.1 15 _ _ rfl; have := R140.1 16 _ _ rfl; have := R140.1 19 _ _ rfl; omega), (Or.inr ⟨Im.o hG, by omega, Or.inr ⟨by omega, by omega, by omega, by omega⟩⟩)⟩
          · exfalso
            have := R102.1 15 _ _ rfl; have := R102.1 16 _ _ rfl; have := R102.1 19 _ _ rfl; omega
        · refine mv_aload_n d_TrustDeskModel_near_43 rfl rfl ?_
          obtain ⟨_, b231, -⟩ := I63.1 _ _ t72
          refine mv_callV (kc' := 0) (ks' := 0) (As := []) (st9 := [.ref o0]) d_TrustDeskModel_near_44 lV_TrustDeskModel_425 b231 rfl (tc_TrustDeskModel_readClause_x (d := d) (x9 := x9) (o0 := o0) t72 R68 K87 (by have := R68.1 15 _ _ rfl; have := R68.1 16 _ _ rfl; have := R68.1 19 _ _ rfl; omega) (by have := f69.o (by omega); omega) (by have := R68.1 15 _ _ rfl; have := R68.1 16 _ _ rfl; have := R68.1 19 _ _ rfl; omega) (by have := R68.1 15 _ _ rfl; have := R68.1 16 _ _ rfl; have := R68.1 19 _ _ rfl; omega) Z990 (pc9 := 0) (by have := R68.1 15 _ _ rfl; have := R68.1 16 _ _ rfl; have := R68.1 19 _ _ rfl; omega) K88 I63.start) rfl (Nat.le_of_ble_eq_true rfl) (Nat.le_of_ble_eq_true rfl) (Nat.le_of_ble_eq_true rfl) (hst := rfl) (fun b225r M226 n227 b225 => ?_)
          obtain ⟨T228, J229, rfl, R232, f233, f234, f235, f236, f237, f238, f239, f240, f241⟩ := b225
          have I230 := I63.call J229 (tm_sub (by decide)) (Or.inl rfl)
          have t242 := J229.up t72
          replace f236 := Im.i f236
          replace f237 := Im.i f237
          replace f240 := Im.i f240
          replace f241 := Im.i f241
          have z243 := (rv_c I63 J229 (I63.up h_o0) (k := 27) rfl).trans z79
          have z244 := (rv_c I63 J229 (I63.up h_o0) (k := 32) rfl).trans z80
          have z245 := (rv_c I63 J229 (I63.up h_o0) (k := 49) rfl).trans z81
          have z246 := (rv_c I63 J229 (I63.up h_o0) (k := 14) rfl).trans z82
          have z247 := (rv_c I63 J229 (I63.up h_o0) (k := 21) rfl).trans z83
          have K248 : rC M226 o0 44 := K86.rO R68 f234 (sA_c I63 J229 (I63.up h_o0) (by decide)) (sF_c I63 J229 (I63.up h_o0) (by decide))
          have K249 : rW M226 o0 := f233
          have h250 : (880 + ra M59 o0 6 44).toNat = 880 := by omega
          rw [h250] at f237
          have K251 : rv M226 o0 19 = 0 → ra M226 o0 7 880 = 8 ∧ ra M226 o0 6 44 = 1 := (fun h9 => ⟨(f237.o (K89 (by omega)) h9).1, by have := (f237.o (K89 (by omega)) h9).2; omega⟩)
          obtain ⟨s252, e253⟩ : ∃ s9 : p_S, (p_cl pb pn 10 (0, [], s53)).2 = s9 := ⟨_, rfl⟩
          rw [e253] at f239
          have := f239.w
          clear z79 z80 z81 z82 z83
          have q254 := J229.keep t72 (by decide) q92
          have q255 := J229.keep t72 (by decide) q93
          refine mv_goto (tgt := 55) d_TrustDeskModel_near_47 (by decide) ?_
          refine mv_aload_n d_TrustDeskModel_near_55 rfl rfl ?_
          obtain ⟨_, b256, -⟩ := I230.1 _ _ t242
          refine mv_callV (kc1 := 0) (ks1 := 0) (kc' := 0) (ks' := 0) (As := []) (st9 := [.ref o0]) d_TrustDeskModel_near_56 lV_TrustDeskModel_230 b256 rfl (mj_enter (by decide) (Nat.le_of_ble_eq_true rfl) ?_) rfl (Nat.le_of_ble_eq_true rfl) (Nat.le_of_ble_eq_true rfl) (Nat.le_of_ble_eq_true rfl) (hst := rfl) (fun _ _ _ h => h)
          refine mv_aload_n d_TrustDeskModel_isWell_0 rfl rfl ?_
          obtain ⟨v258, q257⟩ := tm_atI I230 t242 (k := 19) rfl
          refine tr_getK q257 d_TrustDeskModel_isWell_1 f_TrustDeskModel_224_13 ?_
          have := R232.f (k := 19) q257 rfl
          have := tm_rv q257
          have := mz_hi v258
          refine mv_if_neZ (tgt := 11) (a := v258.toInt) d_TrustDeskModel_isWell_4 (by decide) rfl (fun b259 => ?_) (fun b259 => ?_)
          · refine mv_iconst (v := 0) d_TrustDeskModel_isWell_11 (by decide) ?_
            refine mv_iret d_TrustDeskModel_isWell_12 rfl (by decide) ?_
            refine mv_if_eq_t (tgt := 74) d_TrustDeskModel_near_59 (by decide) (by decide) ?_
            refine mv_aload_n d_TrustDeskModel_near_74 rfl rfl ?_
            refine mv_bipush (v := 32) d_TrustDeskModel_near_75 (by decide) ?_
            refine mv_aload_n d_TrustDeskModel_near_77 rfl rfl ?_
            refine tr_getK (k := 49) q255 d_TrustDeskModel_near_78 f_TrustDeskModel_435_13 ?_
            refine mv_iadd d_TrustDeskModel_near_81 ?_
            obtain ⟨_, b266, -⟩ := I230.1 _ _ t242
            have b267 : (32 + v27 : Int32).toInt = (32 + v27.toInt) := mz_add2 (by decide) rfl (by have := R232.1 15 _ _ rfl; have := R232.1 16 _ _ rfl; have := R232.1 19 _ _ rfl; omega) (by have := R232.1 15 _ _ rfl; have := R232.1 16 _ _ rfl; have := R232.1 19 _ _ rfl; omega)
            refine mv_callV (kc' := 0) (ks' := 0) (As := [.int (32 + v27)]) (st9 := [.int (32 + v27), .ref o0]) d_TrustDeskModel_near_82 lV_TrustDeskModel_388 b266 rfl (tc_TrustDeskModel_stops_x (d := (d + 25)) (x9 := x9) (o0 := o0) (x1 := (32 + v27)) t242 R232 (by have := R232.1 15 _ _ rfl; have := R232.1 16 _ _ rfl; have := R232.1 19 _ _ rfl; omega) f239 I230.start) rfl (Nat.le_of_ble_eq_true rfl) (Nat.le_of_ble_eq_true rfl) (Nat.le_of_ble_eq_true rfl) (hst := rfl) (fun b260r M261 n262 b260 => ?_)
            obtain ⟨T263, J264, v268, rfl, R269, f270, f271, f272, f273, f274⟩ := b260
            have I265 := I230.call J264 (tm_sub (by decide)) (Or.inl rfl)
            have t275 := J264.up t242
            replace f270 := Im.i f270
            replace f271 := Im.i f271
            have z276 := (rv_c I230 J264 (I230.up h_o0) (k := 15) rfl)
            have z277 := (rv_c I230 J264 (I230.up h_o0) (k := 16) rfl)
            have z278 := (rv_c I230 J264 (I230.up h_o0) (k := 17) rfl)
            have z279 := (rv_c I230 J264 (I230.up h_o0) (k := 19) rfl)
            have z280 := (rv_c I230 J264 (I230.up h_o0) (k := 22) rfl)
            have z281 := (rv_c I230 J264 (I230.up h_o0) (k := 24) rfl)
            have z282 := (rv_c I230 J264 (I230.up h_o0) (k := 27) rfl).trans z243
            have z283 := (rv_c I230 J264 (I230.up h_o0) (k := 32) rfl).trans z244
            have z284 := (rv_c I230 J264 (I230.up h_o0) (k := 49) rfl).trans z245
            have e285 : p_nea pb pn = s252 := (by first | exact p_nea_f e54 (pW1 (Im.o d91) (by omega)) e253 (by omega) | exact p_nea_o e54 (pW1 (Im.o d91) (by omega)) e253 (by have := pW1 (Im.o d91) (by omega); have := Z990.wk; omega))
            have z1 : (p_nea pb pn).1 = s252.1 := by rw [e285]
            have z3 : (p_nea pb pn).2.1 = s252.2.1 := by rw [e285]
            have K286 : (v268.toInt < 0 → rC M261 o0 44) ∧ (0 ≤ v268.toInt → rC M261 o0 ((32 + v27).toNatClampNeg)) := rC.st K248 R232 K249 (by have := mz_nat9 (i := (32 + v27)) (by have := R232.1 15 _ _ rfl; have := R232.1 16 _ _ rfl; have := R232.1 19 _ _ rfl; omega); have := R232.1 15 _ _ rfl; have := R232.1 16 _ _ rfl; have := R232.1 19 _ _ rfl; omega) (by unfold rU; have := mz_nat9 (i := (32 + v27)) (by have := R232.1 15 _ _ rfl; have := R232.1 16 _ _ rfl; have := R232.1 19 _ _ rfl; omega); have := R232.1 15 _ _ rfl; have := R232.1 16 _ _ rfl; have := R232.1 19 _ _ rfl; omega) f270 f271 (sA_c I230 J264 (I230.up h_o0) (by decide)) (sF_c I230 J264 (I230.up h_o0) (by decide))
            have K287 : 0 ≤ v268.toInt → ra M261 o0 7 (20 * (32 + v27).toNatClampNeg) = 8 := k8_of f270 f271 K251
            have g288 := Im.i (tl_st (tl_ge (R232.1 19 _ _ rfl) f239.w) f273 f274)
            clear f273 f274
            clear z243 z244 z245
            have q289 := J264.keep t242 (by decide) q254
            have q290 := J264.keep t242 (by decide) q255
            have q291 := J264.keep t242 (by decide) q257
            refine mv_istore_n (lv' := [(2, .int v268), (0, .ref o0), (1, .int x1)]) d_TrustDeskModel_near_85 rfl (by decide) rfl ?_
            refine mv_iload_n d_TrustDeskModel_near_86 rfl rfl ?_
            have := mz_hi v268
            refine mv_if_geZ (tgt := 92) (a := v268.toInt) d_TrustDeskModel_near_87 (by decide) rfl (fun b292 => ?_) (fun b292 => ?_)
            · have K293 : rC M261 o0 ((32 + v27).toNatClampNeg) := K286.2 (by omega)
              obtain ⟨g294, g295⟩ := (Im.o g288).1 (by omega)
              refine mv_aload_n d_TrustDeskModel_near_92 rfl rfl ?_
              obtain ⟨a298, q297, t_a298⟩ := tm_atR I265 t275 (k := 50) rfl
              refine tr_getK q297 d_TrustDeskModel_near_93 f_TrustDeskModel_116_13 ?_
              refine mv_aload_n d_TrustDeskModel_near_96 rfl rfl ?_
              refine tr_getK (k := 49) q290 d_TrustDeskModel_near_97 f_TrustDeskModel_435_13 ?_
              refine mv_iload_n d_TrustDeskModel_near_100 rfl rfl ?_
              refine tr_iastR (k := 50) I265 R269 (I265.up h_o0) q297 t_a298 (by decide) (by decide) (fun lo hi h => by cases h) (Or.inl (by decide)) d_TrustDeskModel_near_101 (vp_in_iff.mpr (by have := R269.1 15 _ _ rfl; have := R269.1 16 _ _ rfl; have := R269.1 19 _ _ rfl; omega)) (fun M299 I300 K301 R302 E303 A304 V305 => ?_)
              have z306 := (V305 15).trans z276
              have z307 := (V305 16).trans z277
              have z308 := (V305 17).trans z278
              have z309 := (V305 19).trans z279
              have z310 := (V305 22).trans z280
              have z311 := (V305 24).trans z281
              have z312 := (V305 27).trans z282
              have z313 := (V305 32).trans z283
              have z314 := (V305 49).trans z284
              have z315 := (V305 14)
              have z316 := (V305 21)
              have z317 := (A304 5 (by decide) rfl 44)
              have z318 := (A304 6 (by decide) rfl 44)
              have K319 : 0 ≤ v268.toInt → ra M299 o0 7 (20 * (32 + v27).toNatClampNeg) = 8 := (by have e1 := ((sA_a A304 (by decide +kernel)) : sA [7] _ _ _) 7 rfl; rw [e1]; exact K287)
              have K320 : rC M299 o0 ((32 + v27).toNatClampNeg) := K293.same (sA_a A304 (by decide +kernel)) (sF_a V305)
              clear z276 z277 z278 z280 z281 z282 z283 z284
              refine mv_aload_n d_TrustDeskModel_near_102 rfl rfl ?_
              refine mv_dup d_TrustDeskModel_near_103 rfl ?_
              refine tr_getK (k := 49) (K301 _ 13 49 _ q290) d_TrustDeskModel_near_104 f_TrustDeskModel_435_13 ?_
              refine mv_iconst (v := 1) d_TrustDeskModel_near_107 (by decide) ?_
              refine mv_iadd d_TrustDeskModel_near_108 ?_
              have b321 : (v27 + 1 : Int32).toInt = (v27.toInt + 1) := mz_add2 rfl (by decide) (by have := R302.1 15 _ _ rfl; have := R302.1 16 _ _ rfl; have := R302.1 19 _ _ rfl; omega) (by have := R302.1 15 _ _ rfl; have := R302.1 16 _ _ rfl; have := R302.1 19 _ _ rfl; omega)
              refine tr_putR (k := 49) I300 R302 t275 rfl ⟨_, rfl⟩ (fun _ h => by cases h) rfl (fun lo hi h => by cases h; have := R302.1 15 _ _ rfl; have := R302.1 16 _ _ rfl; have := R302.1 19 _ _ rfl; exact ⟨by show (0 : Int) ≤ (v27 + 1).toInt; omega, by show (v27 + 1).toInt ≤ (12 : Int); omega⟩) (Or.inl (by decide)) d_TrustDeskModel_near_109 p_TrustDeskModel_435_13 rfl rfl (fun M322 I323 q324 K325 R326 A327 V328 => ?_)
              have z329 := (V328 15 (by decide)).trans z306
              have z330 := (V328 16 (by decide)).trans z307
              have z331 := (V328 17 (by decide)).trans z308
              have z332 := (V328 19 (by decide)).trans z309
              have z333 := (V328 22 (by decide)).trans z310
              have z334 := (V328 24 (by decide)).trans z311
              have z335 := (V328 27 (by decide)).trans z312
              have z336 := (V328 32 (by decide)).trans z313
              have z337 := (V328 14 (by decide)).trans z315
              have z338 := (V328 21 (by decide)).trans z316
              have z339 := (A327 5 (by decide) 44).trans z317
              have z340 := (A327 6 (by decide) 44).trans z318
              have z341 : rv M322 o0 49 = (v27 + 1).toInt := tm_rv q324
              have K342 : 0 ≤ v268.toInt → ra M322 o0 7 (20 * (32 + v27).toNatClampNeg) = 8 := (by have e1 := ((sA_f A327 (by decide)) : sA [7] _ _ _) 7 rfl; rw [e1]; exact K319)
              have K343 : rC M322 o0 44 := rC.near K320 A327 V328 (by have := mz_nat9 (i := (32 + v27)) (by have := R302.1 15 _ _ rfl; have := R302.1 16 _ _ rfl; have := R302.1 19 _ _ rfl; omega); have := R302.1 15 _ _ rfl; have := R302.1 16 _ _ rfl; have := R302.1 19 _ _ rfl; omega) (by have := R302.1 15 _ _ rfl; have := R302.1 16 _ _ rfl; have := R302.1 19 _ _ rfl; omega) (by have := R302.1 15 _ _ rfl; have := R302.1 16 _ _ rfl; have := R302.1 19 _ _ rfl; omega) (K319 (by omega))
              clear z306 z307 z308 z310 z311 z312 z313 z315 z316 z317 z318
              refine mv_aload_n d_TrustDeskModel_near_112 rfl rfl ?_
              refine tr_getK (k := 49) q324 d_TrustDeskModel_near_113 f_TrustDeskModel_435_13 ?_
              refine mv_iconst (v := 1) d_TrustDeskModel_near_116 (by decide) ?_
              refine mv_isubv (v := v27) d_TrustDeskModel_near_117 (Int32.add_sub_cancel _ _) ?_
              exact mv_iret d_TrustDeskModel_near_118 rfl (by first | rfl | decide) ⟨_, I323, _, rfl, R326, K343, (by have := R326.1 15 _ _ rfl; have := R326.1 16 _ _ rfl; have := R326.1 19 _ _ rfl; omega), (Or.inr ⟨Im.o hG, by omega, Or.inl ⟨by omega, by omega, by omega, by omega⟩⟩)⟩
            · have K344 : rC M261 o0 44 := K286.1 (by omega)
              obtain ⟨g345, g346, g347⟩ := (Im.o g288).2 (by omega)
              refine mv_iload_n d_TrustDeskModel_near_90 rfl rfl ?_
              exact mv_iret d_TrustDeskModel_near_91 rfl (by first | rfl | decide) ⟨_, I265, _, rfl, R269, K344, (by have := R269.1 15 _ _ rfl; have := R269.1 16 _ _ rfl; have := R269.1 19 _ _ rfl; omega), (Or.inr ⟨Im.o hG, by omega, Or.inr ⟨by omega, by omega, by omega, by omega⟩⟩)⟩
          · refine mv_iconst (v := 1) d_TrustDeskModel_isWell_7 (by decide) ?_
            refine mv_goto (tgt := 12) d_TrustDeskModel_isWell_8 (by decide) ?_
            refine mv_iret d_TrustDeskModel_isWell_12 rfl (by decide) ?_
            refine mv_if_eq_f (tgt := 74) d_TrustDeskModel_near_59 (by decide) (by decide) ?_
            refine mv_aload_n d_TrustDeskModel_near_62 rfl rfl ?_
            obtain ⟨v349, q348⟩ := tm_atI I230 t242 (k := 17) rfl
            refine tr_getK q348 d_TrustDeskModel_near_63 f_TrustDeskModel_198_13 ?_
            have := tm_rv q348
            have := mz_hi v349
            refine mv_if_eqZ (tgt := 74) (a := v349.toInt) d_TrustDeskModel_near_66 (by decide) rfl (fun b350 => ?_) (fun b350 => ?_)
            · refine mv_aload_n d_TrustDeskModel_near_74 rfl rfl ?_
              refine mv_bipush (v := 32) d_TrustDeskModel_near_75 (by decide) ?_
              refine mv_aload_n d_TrustDeskModel_near_77 rfl rfl ?_
              refine tr_getK (k := 49) q255 d_TrustDeskModel_near_78 f_TrustDeskModel_435_13 ?_
              refine mv_iadd d_TrustDeskModel_near_81 ?_
              obtain ⟨_, b357, -⟩ := I230.1 _ _ t242
              have b358 : (32 + v27 : Int32).toInt = (32 + v27.toInt) := mz_add2 (by decide) rfl (by have := R232.1 15 _ _ rfl; have := R232.1 16 _ _ rfl; have := R232.1 19 _ _ rfl; omega) (by have := R232.1 15 _ _ rfl; have := R232.1 16 _ _ rfl; have := R232.1 19 _ _ rfl; omega)
              refine mv_callV (kc' := 0) (ks' := 0) (As := [.int (32 + v27)]) (st9 := [.int (32 + v27), .ref o0]) d_TrustDeskModel_near_82 lV_TrustDeskModel_388 b357 rfl (tc_TrustDeskModel_stops_x (d := (d + 25)) (x9 := x9) (o0 := o0) (x1 := (32 + v27)) t242 R232 (by have := R232.1 15 _ _ rfl; have := R232.1 16 _ _ rfl; have := R232.1 19 _ _ rfl; omega) f239 I230.start) rfl (Nat.le_of_ble_eq_true rfl) (Nat.le_of_ble_eq_true rfl) (Nat.le_of_ble_eq_true rfl) (hst := rfl) (fun b351r M352 n353 b351 => ?_)
              obtain ⟨T354, J355, v359, rfl, R360, f361, f362, f363, f364, f365⟩ := b351
              have I356 := I230.call J355 (tm_sub (by decide)) (Or.inl rfl)
              have t366 := J355.up t242
              replace f361 := Im.i f361
              replace f362 := Im.i f362
              have z367 := (rv_c I230 J355 (I230.up h_o0) (k := 15) rfl)
              have z368 := (rv_c I230 J355 (I230.up h_o0) (k := 16) rfl)
              have z369 := (rv_c I230 J355 (I230.up h_o0) (k := 17) rfl)
              have z370 := (rv_c I230 J355 (I230.up h_o0) (k := 19) rfl)
              have z371 := (rv_c I230 J355 (I230.up h_o0) (k := 22) rfl)
              have z372 := (rv_c I230 J355 (I230.up h_o0) (k := 24) rfl)
              have z373 := (rv_c I230 J355 (I230.up h_o0) (k := 27) rfl).trans z243
              have z374 := (rv_c I230 J355 (I230.up h_o0) (k := 32) rfl).trans z244
              have z375 := (rv_c I230 J355 (I230.up h_o0) (k := 49) rfl).trans z245
              have e376 : p_nea pb pn = s252 := (by first | exact p_nea_f e54 (pW1 (Im.o d91) (by omega)) e253 (by omega) | exact p_nea_o e54 (pW1 (Im.o d91) (by omega)) e253 (by have := f239.s0 (by omega) (by omega); have := pW1 (Im.o d91) (by omega); have := Z990.wk; omega))
              have z1 : (p_nea pb pn).1 = s252.1 := by rw [e376]
              have z3 : (p_nea pb pn).2.1 = s252.2.1 := by rw [e376]
              have K377 : (v359.toInt < 0 → rC M352 o0 44) ∧ (0 ≤ v359.toInt → rC M352 o0 ((32 + v27).toNatClampNeg)) := rC.st K248 R232 K249 (by have := mz_nat9 (i := (32 + v27)) (by have := R232.1 15 _ _ rfl; have := R232.1 16 _ _ rfl; have := R232.1 19 _ _ rfl; omega); have := R232.1 15 _ _ rfl; have := R232.1 16 _ _ rfl; have := R232.1 19 _ _ rfl; omega) (by unfold rU; have := mz_nat9 (i := (32 + v27)) (by have := R232.1 15 _ _ rfl; have := R232.1 16 _ _ rfl; have := R232.1 19 _ _ rfl; omega); have := R232.1 15 _ _ rfl; have := R232.1 16 _ _ rfl; have := R232.1 19 _ _ rfl; omega) f361 f362 (sA_c I230 J355 (I230.up h_o0) (by decide)) (sF_c I230 J355 (I230.up h_o0) (by decide))
              have K378 : 0 ≤ v359.toInt → ra M352 o0 7 (20 * (32 + v27).toNatClampNeg) = 8 := k8_of f361 f362 K251
              have g379 := Im.i (tl_st (tl_ge (R232.1 19 _ _ rfl) f239.w) f364 f365)
              clear f364 f365
              clear z243 z244 z245
              have q380 := J355.keep t242 (by decide) q254
              have q381 := J355.keep t242 (by decide) q255
              have q382 := J355.keep t242 (by decide) q257
              have q383 := J355.keep t242 (by decide) q348
              refine mv_istore_n (lv' := [(2, .int v359), (0, .ref o0), (1, .int x1)]) d_TrustDeskModel_near_85 rfl (by decide) rfl ?_
              refine mv_iload_n d_TrustDeskModel_near_86 rfl rfl ?_
              have := mz_hi v359
              refine mv_if_geZ (tgt := 92) (a := v359.toInt) d_TrustDeskModel_near_87 (by decide) rfl (fun b384 => ?_) (fun b384 => ?_)
              · have K385 : rC M352 o0 ((32 + v27).toNatClampNeg) := K377.2 (by omega)
                obtain ⟨g386, g387⟩ := (Im.o g379).1 (by omega)
                refine mv_aload_n d_TrustDeskModel_near_92 rfl rfl ?_
                obtain ⟨a390, q389, t_a390⟩ := tm_atR I356 t366 (k := 50) rfl
                refine tr_getK q389 d_TrustDeskModel_near_93 f_TrustDeskModel_116_13 ?_
                refine mv_aload_n d_TrustDeskModel_near_96 rfl rfl ?_
                refine tr_getK (k := 49) q381 d_TrustDeskModel_near_97 f_TrustDeskModel_435_13 ?_
                refine mv_iload_n d_TrustDeskModel_near_100 rfl rfl ?_
                refine tr_iastR (k := 50) I356 R360 (I356.up h_o0) q389 t_a390 (by decide) (by decide) (fun lo hi h => by cases h) (Or.inl (by decide)) d_TrustDeskModel_near_101 (vp_in_iff.mpr (by have := R360.1 15 _ _ rfl; have := R360.1 16 _ _ rfl; have := R360.1 19 _ _ rfl; omega)) (fun M391 I392 K393 R394 E395 A396 V397 => ?_)
                have z398 := (V397 15).trans z367
                have z399 := (V397 16).trans z368
                have z400 := (V397 17).trans z369
                have z401 := (V397 19).trans z370
                have z402 := (V397 22).trans z371
                have z403 := (V397 24).trans z372
                have z404 := (V397 27).trans z373
                have z405 := (V397 32).trans z374
                have z406 := (V397 49).trans z375
                have z407 := (V397 14)
                have z408 := (V397 21)
                have z409 := (A396 5 (by decide) rfl 44)
                have z410 := (A396 6 (by decide) rfl 44)
                have K411 : 0 ≤ v359.toInt → ra M391 o0 7 (20 * (32 + v27).toNatClampNeg) = 8 := (by have e1 := ((sA_a A396 (by decide +kernel)) : sA [7] _ _ _) 7 rfl; rw [e1]; exact K378)
                have K412 : rC M391 o0 ((32 + v27).toNatClampNeg) := K385.same (sA_a A396 (by decide +kernel)) (sF_a V397)
                clear z367 z368 z369 z371 z372 z373 z374 z375
                refine mv_aload_n d_TrustDeskModel_near_102 rfl rfl ?_
                refine mv_dup d_TrustDeskModel_near_103 rfl ?_
                refine tr_getK (k := 49) (K393 _ 13 49 _ q381) d_TrustDeskModel_near_104 f_TrustDeskModel_435_13 ?_
                refine mv_iconst (v := 1) d_TrustDeskModel_near_107 (by decide) ?_
                refine mv_iadd d_TrustDeskModel_near_108 ?_
                have b413 : (v27 + 1 : Int32).toInt = (v27.toInt + 1) := mz_add2 rfl (by decide) (by have := R394.1 15 _ _ rfl; have := R394.1 16 _ _ rfl; have := R394.1 19 _ _ rfl; omega) (by have := R394.1 15 _ _ rfl; have := R394.1 16 _ _ rfl; have := R394.1 19 _ _ rfl; omega)
                refine tr_putR (k := 49) I392 R394 t366 rfl ⟨_, rfl⟩ (fun _ h => by cases h) rfl (fun lo hi h => by cases h; have := R394.1 15 _ _ rfl; have := R394.1 16 _ _ rfl; have := R394.1 19 _ _ rfl; exact ⟨by show (0 : Int) ≤ (v27 + 1).toInt; omega, by show (v27 + 1).toInt ≤ (12 : Int); omega⟩) (Or.inl (by decide)) d_TrustDeskModel_near_109 p_TrustDeskModel_435_13 rfl rfl (fun M414 I415 q416 K417 R418 A419 V420 => ?_)
                have z421 := (V420 15 (by decide)).trans z398
                have z422 := (V420 16 (by decide)).trans z399
                have z423 := (V420 17 (by decide)).trans z400
                have z424 := (V420 19 (by decide)).trans z401
                have z425 := (V420 22 (by decide)).trans z402
                have z426 := (V420 24 (by decide)).trans z403
                have z427 := (V420 27 (by decide)).trans z404
                have z428 := (V420 32 (by decide)).trans z405
                have z429 := (V420 14 (by decide)).trans z407
                have z430 := (V420 21 (by decide)).trans z408
                have z431 := (A419 5 (by decide) 44).trans z409
                have z432 := (A419 6 (by decide) 44).trans z410
                have z433 : rv M414 o0 49 = (v27 + 1).toInt := tm_rv q416
                have K434 : 0 ≤ v359.toInt → ra M414 o0 7 (20 * (32 + v27).toNatClampNeg) = 8 := (by have e1 := ((sA_f A419 (by decide)) : sA [7] _ _ _) 7 rfl; rw [e1]; exact K411)
                have K435 : rC M414 o0 44 := rC.near K412 A419 V420 (by have := mz_nat9 (i := (32 + v27)) (by have := R394.1 15 _ _ rfl; have := R394.1 16 _ _ rfl; have := R394.1 19 _ _ rfl; omega); have := R394.1 15 _ _ rfl; have := R394.1 16 _ _ rfl; have := R394.1 19 _ _ rfl; omega) (by have := R394.1 15 _ _ rfl; have := R394.1 16 _ _ rfl; have := R394.1 19 _ _ rfl; omega) (by have := R394.1 15 _ _ rfl; have := R394.1 16 _ _ rfl; have := R394.1 19 _ _ rfl; omega) (K411 (by omega))
                clear z398 z399 z400 z402 z403 z404 z405 z407 z408 z409 z410
                refine mv_aload_n d_TrustDeskModel_near_112 rfl rfl ?_
                refine tr_getK (k := 49) q416 d_TrustDeskModel_near_113 f_TrustDeskModel_435_13 ?_
                refine mv_iconst (v := 1) d_TrustDeskModel_near_116 (by decide) ?_
                refine mv_isubv (v := v27) d_TrustDeskModel_near_117 (Int32.add_sub_cancel _ _) ?_
                exact mv_iret d_TrustDeskModel_near_118 rfl (by first | rfl | decide) ⟨_, I415, _, rfl, R418, K435, (by have := R418.1 15 _ _ rfl; have := R418.1 16 _ _ rfl; have := R418.1 19 _ _ rfl; omega), (Or.inr ⟨Im.o hG, by omega, Or.inl ⟨by omega, by omega, by omega, by omega⟩⟩)⟩
              · have K436 : rC M352 o0 44 := K377.1 (by omega)
                obtain ⟨g437, g438, g439⟩ := (Im.o g379).2 (by omega)
                refine mv_iload_n d_TrustDeskModel_near_90 rfl rfl ?_
                exact mv_iret d_TrustDeskModel_near_91 rfl (by first | rfl | decide) ⟨_, I356, _, rfl, R360, K436, (by have := R360.1 15 _ _ rfl; have := R360.1 16 _ _ rfl; have := R360.1 19 _ _ rfl; omega), (Or.inr ⟨Im.o hG, by omega, Or.inr ⟨by omega, by omega, by omega, by omega⟩⟩)⟩
            · refine mv_aload_n d_TrustDeskModel_near_69 rfl rfl ?_
              refine mv_iconst (v := 1) d_TrustDeskModel_near_70 (by decide) ?_
              obtain ⟨_, b446, -⟩ := I230.1 _ _ t242
              have : (1 : Int32).toInt = 1 := by decide
              refine mv_callV (kc' := 0) (ks' := 0) (As := [.int 1]) (st9 := [.int 1, .ref o0]) d_TrustDeskModel_near_71 lV_TrustDeskModel_240 b446 rfl (tc_TrustDeskModel_fails_x (d := (d + 26)) (x9 := x9) (o0 := o0) (x1 := 1) t242 R232 (by decide) f239 I230.start) rfl (Nat.le_of_ble_eq_true rfl) (Nat.le_of_ble_eq_true rfl) (Nat.le_of_ble_eq_true rfl) (hst := rfl) (fun b440r M441 n442 b440 => ?_)
              obtain ⟨T443, J444, rfl, R447, f448, f449⟩ := b440
              have I445 := I230.call J444 (tm_sub (by decide)) (Or.inl rfl)
              have t450 := J444.up t242
              have z451 := (rv_c I230 J444 (I230.up h_o0) (k := 15) rfl)
              have z452 := (rv_c I230 J444 (I230.up h_o0) (k := 16) rfl)
              have z453 := (rv_c I230 J444 (I230.up h_o0) (k := 17) rfl)
              have z454 := (rv_c I230 J444 (I230.up h_o0) (k := 22) rfl)
              have z455 := (rv_c I230 J444 (I230.up h_o0) (k := 24) rfl)
              have z456 := (rv_c I230 J444 (I230.up h_o0) (k := 27) rfl).trans z243
              have z457 := (rv_c I230 J444 (I230.up h_o0) (k := 32) rfl).trans z244
              have z458 := (rv_c I230 J444 (I230.up h_o0) (k := 49) rfl).trans z245
              have z459 := (rv_c I230 J444 (I230.up h_o0) (k := 14) rfl).trans z246
              have z460 := (rv_c I230 J444 (I230.up h_o0) (k := 21) rfl).trans z247
              have z461 := (ra_call I230 J444 (I230.up h_o0) (k := 5) rfl rfl rfl 44)
              have z462 := (ra_call I230 J444 (I230.up h_o0) (k := 6) rfl rfl rfl 44)
              have K463 : rC M441 o0 44 := K248.same (sA_c I230 J444 (I230.up h_o0) (by decide +kernel)) (sF_c I230 J444 (I230.up h_o0) (by decide +kernel))
              have K464 : rW M441 o0 := K249.fail (sF_c I230 J444 (I230.up h_o0) (by decide)) f448
              have K465 : rv M441 o0 19 = 0 → ra M441 o0 7 880 = 8 ∧ ra M441 o0 6 44 = 1 := (fun h9 => absurd h9 f448)
              rw [show (1 : Int32).toInt = 1 from by decide] at f449
              obtain ⟨s466, e467⟩ : ∃ s9 : p_S, p_fl pb pn 1 s252 = s9 := ⟨_, rfl⟩
              rw [e467] at f449
              have := f449.w
              clear z243 z244 z245 z246 z247
              have q468 := J444.keep t242 (by decide) q254
              have q469 := J444.keep t242 (by decide) q255
              have q470 := J444.keep t242 (by decide) q348
              refine mv_aload_n d_TrustDeskModel_near_74 rfl rfl ?_
              refine mv_bipush (v := 32) d_TrustDeskModel_near_75 (by decide) ?_
              refine mv_aload_n d_TrustDeskModel_near_77 rfl rfl ?_
              refine tr_getK (k := 49) q469 d_TrustDeskModel_near_78 f_TrustDeskModel_435_13 ?_
              refine mv_iadd d_TrustDeskModel_near_81 ?_
              obtain ⟨_, b477, -⟩ := I445.1 _ _ t450
              have b478 : (32 + v27 : Int32).toInt = (32 + v27.toInt) := mz_add2 (by decide) rfl (by have := R447.1 15 _ _ rfl; have := R447.1 16 _ _ rfl; have := R447.1 19 _ _ rfl; omega) (by have := R447.1 15 _ _ rfl; have := R447.1 16 _ _ rfl; have := R447.1 19 _ _ rfl; omega)
              refine mv_callV (kc' := 0) (ks' := 0) (As := [.int (32 + v27)]) (st9 := [.int (32 + v27), .ref o0]) d_TrustDeskModel_near_82 lV_TrustDeskModel_388 b477 rfl (tc_TrustDeskModel_stops_x (d := (d + 25)) (x9 := x9) (o0 := o0) (x1 := (32 + v27)) t450 R447 (by have := R447.1 15 _ _ rfl; have := R447.1 16 _ _ rfl; have := R447.1 19 _ _ rfl; omega) f449 I445.start) rfl (Nat.le_of_ble_eq_true rfl) (Nat.le_of_ble_eq_true rfl) (Nat.le_of_ble_eq_true rfl) (hst := rfl) (fun b471r M472 n473 b471 => ?_)
              obtain ⟨T474, J475, v479, rfl, R480, f481, f482, f483, f484, f485⟩ := b471
              have I476 := I445.call J475 (tm_sub (by decide)) (Or.inl rfl)
              have t486 := J475.up t450
              replace f481 := Im.i f481
              replace f482 := Im.i f482
              have z487 := (rv_c I445 J475 (I445.up h_o0) (k := 15) rfl).trans z451
              have z488 := (rv_c I445 J475 (I445.up h_o0) (k := 16) rfl).trans z452
              have z489 := (rv_c I445 J475 (I445.up h_o0) (k := 17) rfl).trans z453
              have z490 := (rv_c I445 J475 (I445.up h_o0) (k := 19) rfl)
              have z491 := (rv_c I445 J475 (I445.up h_o0) (k := 22) rfl).trans z454
              have z492 := (rv_c I445 J475 (I445.up h_o0) (k := 24) rfl).trans z455
              have z493 := (rv_c I445 J475 (I445.up h_o0) (k := 27) rfl).trans z456
              have z494 := (rv_c I445 J475 (I445.up h_o0) (k := 32) rfl).trans z457
              have z495 := (rv_c I445 J475 (I445.up h_o0) (k := 49) rfl).trans z458
              have e496 : p_nea pb pn = s466 := (p_nea_m e54 (pW1 (Im.o d91) (by omega)) e253 (by omega) (by have := f239.n0 (by omega) (by omega); have := pW1 (Im.o d91) (by omega); have := Z990.wk; omega) e467)
              have z1 : (p_nea pb pn).1 = s466.1 := by rw [e496]
              have z3 : (p_nea pb pn).2.1 = s466.2.1 := by rw [e496]
              have K497 : (v479.toInt < 0 → rC M472 o0 44) ∧ (0 ≤ v479.toInt → rC M472 o0 ((32 + v27).toNatClampNeg)) := rC.st K463 R447 K464 (by have := mz_nat9 (i := (32 + v27)) (by have := R447.1 15 _ _ rfl; have := R447.1 16 _ _ rfl; have := R447.1 19 _ _ rfl; omega); have := R447.1 15 _ _ rfl; have := R447.1 16 _ _ rfl; have := R447.1 19 _ _ rfl; omega) (by unfold rU; have := mz_nat9 (i := (32 + v27)) (by have := R447.1 15 _ _ rfl; have := R447.1 16 _ _ rfl; have := R447.1 19 _ _ rfl; omega); have := R447.1 15 _ _ rfl; have := R447.1 16 _ _ rfl; have := R447.1 19 _ _ rfl; omega) f481 f482 (sA_c I445 J475 (I445.up h_o0) (by decide)) (sF_c I445 J475 (I445.up h_o0) (by decide))
              have K498 : 0 ≤ v479.toInt → ra M472 o0 7 (20 * (32 + v27).toNatClampNeg) = 8 := k8_of f481 f482 K465
              have g499 := Im.i (tl_st (tl_ge (R447.1 19 _ _ rfl) f449.w) f484 f485)
              clear f484 f485
              clear z451 z452 z453 z454 z455 z456 z457 z458
              have q500 := J475.keep t450 (by decide) q468
              have q501 := J475.keep t450 (by decide) q469
              have q502 := J475.keep t450 (by decide) q470
              refine mv_istore_n (lv' := [(2, .int v479), (0, .ref o0), (1, .int x1)]) d_TrustDeskModel_near_85 rfl (by decide) rfl ?_
              refine mv_iload_n d_TrustDeskModel_near_86 rfl rfl ?_
              have := mz_hi v479
              refine mv_if_geZ (tgt := 92) (a := v479.toInt) d_TrustDeskModel_near_87 (by decide) rfl (fun b503 => ?_) (fun b503 => ?_)
              · have K504 : rC M472 o0 ((32 + v27).toNatClampNeg) := K497.2 (by omega)
                obtain ⟨g505, g506⟩ := (Im.o g499).1 (by omega)
                refine mv_aload_n d_TrustDeskModel_near_92 rfl rfl ?_
                obtain ⟨a509, q508, t_a509⟩ := tm_atR I476 t486 (k := 50) rfl
                refine tr_getK q508 d_TrustDeskModel_near_93 f_TrustDeskModel_116_13 ?_
                refine mv_aload_n d_TrustDeskModel_near_96 rfl rfl ?_
                refine tr_getK (k := 49) q501 d_TrustDeskModel_near_97 f_TrustDeskModel_435_13 ?_
                refine mv_iload_n d_TrustDeskModel_near_100 rfl rfl ?_
                refine tr_iastR (k := 50) I476 R480 (I476.up h_o0) q508 t_a509 (by decide) (by decide) (fun lo hi h => by cases h) (Or.inl (by decide)) d_TrustDeskModel_near_101 (vp_in_iff.mpr (by have := R480.1 15 _ _ rfl; have := R480.1 16 _ _ rfl; have := R480.1 19 _ _ rfl; omega)) (fun M510 I511 K512 R513 E514 A515 V516 => ?_)
                have z517 := (V516 15).trans z487
                have z518 := (V516 16).trans z488
                have z519 := (V516 17).trans z489
                have z520 := (V516 19).trans z490
                have z521 := (V516 22).trans z491
                have z522 := (V516 24).trans z492
                have z523 := (V516 27).trans z493
                have z524 := (V516 32).trans z494
                have z525 := (V516 49).trans z495
                have z526 := (V516 14)
                have z527 := (V516 21)
                have z528 := (A515 5 (by decide) rfl 44)
                have z529 := (A515 6 (by decide) rfl 44)
                have K530 : 0 ≤ v479.toInt → ra M510 o0 7 (20 * (32 + v27).toNatClampNeg) = 8 := (by have e1 := ((sA_a A515 (by decide +kernel)) : sA [7] _ _ _) 7 rfl; rw [e1]; exact K498)
                have K531 : rC M510 o0 ((32 + v27).toNatClampNeg) := K504.same (sA_a A515 (by decide +kernel)) (sF_a V516)
                clear z487 z488 z489 z491 z492 z493 z494 z495
                refine mv_aload_n d_TrustDeskModel_near_102 rfl rfl ?_
                refine mv_dup d_TrustDeskModel_near_103 rfl ?_
                refine tr_getK (k := 49) (K512 _ 13 49 _ q501) d_TrustDeskModel_near_104 f_TrustDeskModel_435_13 ?_
                refine mv_iconst (v := 1) d_TrustDeskModel_near_107 (by decide) ?_
                refine mv_iadd d_TrustDeskModel_near_108 ?_
                have b532 : (v27 + 1 : Int32).toInt = (v27.toInt + 1) := mz_add2 rfl (by decide) (by have := R513.1 15 _ _ rfl; have := R513.1 16 _ _ rfl; have := R513.1 19 _ _ rfl; omega) (by have := R513.1 15 _ _ rfl; have := R513.1 16 _ _ rfl; have := R513.1 19 _ _ rfl; omega)
                refine tr_putR (k := 49) I511 R513 t486 rfl ⟨_, rfl⟩ (fun _ h => by cases h) rfl (fun lo hi h => by cases h; have := R513.1 15 _ _ rfl; have := R513.1 16 _ _ rfl; have := R513.1 19 _ _ rfl; exact ⟨by show (0 : Int) ≤ (v27 + 1).toInt; omega, by show (v27 + 1).toInt ≤ (12 : Int); omega⟩) (Or.inl (by decide)) d_TrustDeskModel_near_109 p_TrustDeskModel_435_13 rfl rfl (fun M533 I534 q535 K536 R537 A538 V539 => ?_)
                have z540 := (V539 15 (by decide)).trans z517
                have z541 := (V539 16 (by decide)).trans z518
                have z542 := (V539 17 (by decide)).trans z519
                have z543 := (V539 19 (by decide)).trans z520
                have z544 := (V539 22 (by decide)).trans z521
                have z545 := (V539 24 (by decide)).trans z522
                have z546 := (V539 27 (by decide)).trans z523
                have z547 := (V539 32 (by decide)).trans z524
                have z548 := (V539 14 (by decide)).trans z526
                have z549 := (V539 21 (by decide)).trans z527
                have z550 := (A538 5 (by decide) 44).trans z528
                have z551 := (A538 6 (by decide) 44).trans z529
                have z552 : rv M533 o0 49 = (v27 + 1).toInt := tm_rv q535
                have K553 : 0 ≤ v479.toInt → ra M533 o0 7 (20 * (32 + v27).toNatClampNeg) = 8 := (by have e1 := ((sA_f A538 (by decide)) : sA [7] _ _ _) 7 rfl; rw [e1]; exact K530)
                have K554 : rC M533 o0 44 := rC.near K531 A538 V539 (by have := mz_nat9 (i := (32 + v27)) (by have := R513.1 15 _ _ rfl; have := R513.1 16 _ _ rfl; have := R513.1 19 _ _ rfl; omega); have := R513.1 15 _ _ rfl; have := R513.1 16 _ _ rfl; have := R513.1 19 _ _ rfl; omega) (by have := R513.1 15 _ _ rfl; have := R513.1 16 _ _ rfl; have := R513.1 19 _ _ rfl; omega) (by have := R513.1 15 _ _ rfl; have := R513.1 16 _ _ rfl; have := R513.1 19 _ _ rfl; omega) (K530 (by omega))
                clear z517 z518 z519 z521 z522 z523 z524 z526 z527 z528 z529
                refine mv_aload_n d_TrustDeskModel_near_112 rfl rfl ?_
                refine tr_getK (k := 49) q535 d_TrustDeskModel_near_113 f_TrustDeskModel_435_13 ?_
                refine mv_iconst (v := 1) d_TrustDeskModel_near_116 (by decide) ?_
                refine mv_isubv (v := v27) d_TrustDeskModel_near_117 (Int32.add_sub_cancel _ _) ?_
                exact mv_iret d_TrustDeskModel_near_118 rfl (by first | rfl | decide) ⟨_, I534, _, rfl, R537, K554, (by have := R537.1 15 _ _ rfl; have := R537.1 16 _ _ rfl; have := R537.1 19 _ _ rfl; omega), (Or.inr ⟨Im.o hG, by omega, Or.inl ⟨by omega, by omega, by omega, by omega⟩⟩)⟩
              · have K555 : rC M472 o0 44 := K497.1 (by omega)
                obtain ⟨g556, g557, g558⟩ := (Im.o g499).2 (by omega)
                refine mv_iload_n d_TrustDeskModel_near_90 rfl rfl ?_
                exact mv_iret d_TrustDeskModel_near_91 rfl (by first | rfl | decide) ⟨_, I476, _, rfl, R480, K555, (by have := R480.1 15 _ _ rfl; have := R480.1 16 _ _ rfl; have := R480.1 19 _ _ rfl; omega), (Or.inr ⟨Im.o hG, by omega, Or.inr ⟨by omega, by omega, by omega, by omega⟩⟩)⟩
      · refine mv_iconst (v := (-1)) d_TrustDeskModel_near_26 (by decide) ?_
        exact mv_iret d_TrustDeskModel_near_27 rfl (by first | rfl | decide) ⟨_, I3, _, rfl, R6, K22, (by have := R6.1 15 _ _ rfl; have := R6.1 16 _ _ rfl; have := R6.1 19 _ _ rfl; omega), (Or.inl ⟨by decide, by omega, z18, z19, z17⟩)⟩
