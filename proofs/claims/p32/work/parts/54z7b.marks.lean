def w_Reader_markClause_x : List Nat := [604, 901, 902, 909, 910, 911, 912, 913, 914]
set_option maxHeartbeats 100000000 in theorem tc_Reader_markClause_x {g : mj_G} {l : Launch} {d : Nat} {T0 : tm_H} {M0 : mj_M} {n0 x9 : Nat} {o0 : Nat} {o1 : Nat} (h_o0 : T0 o0 = some (0, 9, 0)) (h_o1 : T0 o1 = some (0, 6, 0))  {pb : Nat → Int} {pn : Nat} {pa : Int} {ps : p_S} (yC : qC M0 o0 pb pn pa) (yD : qS M0 o0 pb pn ps) (yw : ps.1 = 0) (yz : p_ki pb pn ps.2.2 ≠ 0) (I0 : tm_I tm_FT (tm_in w_Reader_markClause_x) x9 T0 M0 n0 T0 M0 n0) : mj_Met g l kY_Reader_markClause (d + 2) [.ref o0, .ref o1] M0 n0 0 0 (tm_Q tm_FT (tm_in w_Reader_markClause_x) x9 T0 M0 n0 (fun r _ M => ∃ v : Int32, r = some (.int v) ∧ 0 ≤ v.toInt ∧ v.toInt ≤ 1 ∧ (∃ s1 : p_S, qS M o0 pb pn s1 ∧ (v.toInt = 1 ∧ s1.1 = 0 ∨ v.toInt = 0 ∧ s1.1 ≠ 0) ∧ (s1.1 = 0 → p_sg pb pn 59 (p_mar pb pn (p_nx ps)) = p_sg pb pn 59 s1) ∧ (s1.1 ≠ 0 → p_sg pb pn 59 (p_mar pb pn (p_nx ps)) = s1)))) := by
  refine mj_enter (by decide) (Nat.le_of_ble_eq_true rfl) ?_
  have hK : ∀ {T : tm_H} {M : mj_M} {n : Nat}, tm_I tm_FT (tm_in w_Reader_markClause_x) x9 T0 M0 n0 T M n → qC M o0 pb pn pa := fun I => yC.keep I0.1 I h_o0 (qW_of (by decide +kernel))
  obtain ⟨v1, v2, v3, v4, v5, v6, v7, q8, q9, q10, q11, q12, q13, q14, h15, h16, h17⟩ := yD
  replace h16 := Im.i h16
  replace h17 := Im.i h17
  have := yC.kn ps.2.2
  refine mv_aload_n d_Reader_markClause_0 rfl rfl ?_
  obtain ⟨_, b24, -⟩ := I0.1 _ _ h_o0
  refine mv_callV (kc' := 0) (ks' := 0) (As := []) (st9 := [.ref o0]) d_Reader_markClause_1 lV_Reader_82 b24 rfl (tc_Reader_advance_x (d := (d + 1)) (x9 := x9) (o0 := o0) h_o0 (hK I0) (qS.a (show qS M0 o0 pb pn ps from ⟨_, _, _, _, _, _, _, q8, q9, q10, q11, q12, q13, q14, h15, Im.o h16, Im.o h17⟩)) (by show ps.2.2 + 1 ≤ 401; omega) I0.start) rfl (Nat.le_of_ble_eq_true rfl) (Nat.le_of_ble_eq_true rfl) (Nat.le_of_ble_eq_true rfl) (hst := rfl) (fun b18r M19 n20 b18 => ?_)
  obtain ⟨T21, J22, rfl, f25⟩ := b18
  have I23 := I0.call J22 (tm_sub (by decide)) (Or.inl rfl)
  have t26 := J22.up h_o0
  have t27 := J22.up h_o1
  have q28 := J22.keep h_o0 (by decide) q8
  have q29 := J22.keep h_o0 (by decide) q9
  obtain ⟨s30, e31⟩ : ∃ s9 : p_S, p_nx ps = s9 := ⟨_, rfl⟩
  rw [e31] at f25
  have : s30.1 = 0 := by rw [← e31]; show ps.1 = 0; omega
  obtain ⟨v32, v33, v34, v35, v36, v37, v38, q39, q40, q41, q42, q43, q44, q45, h46, h47, h48⟩ := f25
  replace h47 := Im.i h47
  replace h48 := Im.i h48
  refine mv_aload_n d_Reader_markClause_4 rfl rfl ?_
  refine mv_iconst (v := 0) d_Reader_markClause_5 (by decide) ?_
  refine mv_bipush (v := 7) d_Reader_markClause_6 (by decide) ?_
  obtain ⟨_, b55, -⟩ := I23.1 _ _ t26
  refine mv_callV (kc' := 0) (ks' := 0) (As := [.int 0, .int 7]) (st9 := [.int 7, .int 0, .ref o0]) d_Reader_markClause_8 lV_Reader_107 b55 rfl (tc_Reader_numeral_x (d := d) (x9 := x9) (o0 := o0) (x1 := 0) (x2 := 7) t26 (hK I23) ⟨_, _, _, _, _, _, _, q39, q40, q41, q42, q43, q44, q45, h46, Im.o h47, Im.o h48⟩ (by omega) I23.start) rfl (Nat.le_of_ble_eq_true rfl) (Nat.le_of_ble_eq_true rfl) (Nat.le_of_ble_eq_true rfl) (hst := rfl) (fun b49r M50 n51 b49 => ?_)
  obtain ⟨T52, J53, v56, rfl, b57, b58, f59, f60, f61⟩ := b49
  have I54 := I23.call J53 (tm_sub (by decide)) (Or.inl rfl)
  have t62 := J53.up t26
  have t63 := J53.up t27
  rw [show (0 : Int32).toInt = 0 from by decide] at f59 f60
  rw [show (7 : Int32).toInt = 7 from by decide] at f59 f60
  obtain ⟨s64, e65⟩ : ∃ s9 : p_S, p_num pb pn 0 7 s30 = s9 := ⟨_, rfl⟩
  rw [e65] at f59 f60
  obtain ⟨v66, v67, v68, v69, v70, v71, v72, q73, q74, q75, q76, q77, q78, q79, h80, h81, h82⟩ := f59
  replace h81 := Im.i h81
  replace h82 := Im.i h82
  obtain ⟨v83, q84, h85⟩ := f61
  have := mz_hi v56
  refine mv_if_neZ (tgt := 16) (a := v56.toInt) d_Reader_markClause_11 (by decide) rfl (fun b86 => ?_) (fun b86 => ?_)
  · refine mv_aload_n d_Reader_markClause_16 rfl rfl ?_
    refine mv_dup d_Reader_markClause_17 rfl ?_
    obtain ⟨v88, q87⟩ := tm_atI I54 t63 (k := 4) rfl
    refine tr_getK q87 d_Reader_markClause_18 f_Reader_163_6 ?_
    refine mv_iconst (v := 1) d_Reader_markClause_21 (by decide) ?_
    refine mv_aload_n d_Reader_markClause_22 rfl rfl ?_
    refine tr_getK (k := 14) q84 d_Reader_markClause_23 f_Reader_111_9 ?_
    refine mv_ishl d_Reader_markClause_26 ?_
    refine mv_ior d_Reader_markClause_27 ?_
    refine tr_putK tm_okF I54 t63 (k := 4) rfl ⟨_, rfl⟩ (Or.inl (by decide)) d_Reader_markClause_28 p_Reader_163_6 rfl rfl (fun M89 I90 q91 K92 => ?_)
    refine mv_iconst (v := 0) d_Reader_markClause_31 (by decide) ?_
    refine mv_istore_n (lv' := [(2, .int 0), (0, .ref o0), (1, .ref o1)]) d_Reader_markClause_32 rfl (by decide) rfl ?_
    have L33_93 : ∀ (k : Nat) (i2_93 : Int32) (T_93 : tm_H) (M_93 : mj_M) (n_93 : Nat), tm_I tm_FT (tm_in w_Reader_markClause_x) x9 T0 M0 n0 T_93 M_93 n_93 → T_93 o0 = some (0, 9, 0) → T_93 o1 = some (0, 6, 0) → 0 ≤ i2_93.toInt → (∃ s1 : p_S, qS M_93 o0 pb pn s1 ∧ s1.1 = 0 ∧ i2_93.toInt ≤ (s1.2.2 : Int) ∧ p_lp pn (p_ma1 pb pn) s1 = p_mar pb pn (p_nx ps)) → 2147483647 - i2_93.toInt < (k : Int) → mj_V g l kY_Reader_markClause (d + 2) 33 [(2, .int i2_93), (0, .ref o0), (1, .ref o1)] [] M_93 n_93 0 0 (tm_Q tm_FT (tm_in w_Reader_markClause_x) x9 T0 M0 n0 (fun r _ M => ∃ v : Int32, r = some (.int v) ∧ 0 ≤ v.toInt ∧ v.toInt ≤ 1 ∧ (∃ s1 : p_S, qS M o0 pb pn s1 ∧ (v.toInt = 1 ∧ s1.1 = 0 ∨ v.toInt = 0 ∧ s1.1 ≠ 0) ∧ (s1.1 = 0 → p_sg pb pn 59 (p_mar pb pn (p_nx ps)) = p_sg pb pn 59 s1) ∧ (s1.1 ≠ 0 → p_sg pb pn 59 (p_mar pb pn (p_nx ps)) = s1)))) := by
      intro k93
      induction k93 with
      | zero =>
        intro i2_93 T_93 M_93 n_93 I_93 h_q0_93 h_q1_93 iv0_93 kKT9_93 hk93
        have := mz_hi i2_93
        omega
      | succ k93 ih93 =>
        intro i2_93 T_93 M_93 n_93 I_93 h_q0_93 h_q1_93 iv0_93 kKT9_93 hk93
        obtain ⟨s94, f95, h96, h97, e98⟩ := kKT9_93
        obtain ⟨v99, v100, v101, v102, v103, v104, v105, q106, q107, q108, q109, q110, q111, q112, h113, h114, h115⟩ := f95
        replace h114 := Im.i h114
        replace h115 := Im.i h115
        refine mv_iload_n d_Reader_markClause_33 rfl rfl ?_
        refine mv_sipush (v := 400) d_Reader_markClause_34 (by decide) ?_
        have := mz_hi i2_93
        refine mv_icmp_geZ (tgt := 81) (a := i2_93.toInt) (b := 400) d_Reader_markClause_37 (by decide) rfl (by decide) (fun b116 => ?_) (fun b116 => ?_)
        · refine mv_iconst (v := 1) d_Reader_markClause_81 (by decide) ?_
          exact mv_iret d_Reader_markClause_82 rfl (by decide) ⟨_, I_93, _, rfl, by decide, by decide, ⟨_, ⟨_, _, _, _, _, _, _, q106, q107, q108, q109, q110, q111, q112, h113, Im.o h114, Im.o h115⟩, (Or.inl ⟨by decide, by omega⟩), (fun _ => by have := (Im.o h115) (by omega); have := yC.d s94.2.2; have := yC.kn s94.2.2; rw [← e98, p_lp_stop (show p_ma1 pb pn s94 = s94 from if_neg (fun h8 => by have := h8.2; omega))]), (fun h9 => absurd (by omega) h9)⟩⟩
        · refine mv_aload_n d_Reader_markClause_40 rfl rfl ?_
          refine tr_getK (k := 10) q109 d_Reader_markClause_41 f_Reader_41_9 ?_
          refine mv_iconst (v := 2) d_Reader_markClause_44 (by decide) ?_
          have := mz_hi v102
          refine mv_icmp_neZ (tgt := 81) (a := v102.toInt) (b := 2) d_Reader_markClause_45 (by decide) rfl (by decide) (fun b117 => ?_) (fun b117 => ?_)
          · refine mv_iconst (v := 1) d_Reader_markClause_81 (by decide) ?_
            exact mv_iret d_Reader_markClause_82 rfl (by decide) ⟨_, I_93, _, rfl, by decide, by decide, ⟨_, ⟨_, _, _, _, _, _, _, q106, q107, q108, q109, q110, q111, q112, h113, Im.o h114, Im.o h115⟩, (Or.inl ⟨by decide, by omega⟩), (fun _ => by have := (Im.o h115) (by omega); have := yC.d s94.2.2; have := yC.kn s94.2.2; rw [← e98, p_lp_stop (show p_ma1 pb pn s94 = s94 from if_neg (fun h8 => by have := h8.2; omega))]), (fun h9 => absurd (by omega) h9)⟩⟩
          · refine mv_aload_n d_Reader_markClause_48 rfl rfl ?_
            refine mv_iconst (v := 0) d_Reader_markClause_49 (by decide) ?_
            refine mv_bipush (v := 7) d_Reader_markClause_50 (by decide) ?_
            obtain ⟨_, b124, -⟩ := I_93.1 _ _ h_q0_93
            refine mv_callV (kc' := 0) (ks' := 0) (As := [.int 0, .int 7]) (st9 := [.int 7, .int 0, .ref o0]) d_Reader_markClause_52 lV_Reader_107 b124 rfl (tc_Reader_numeral_x (d := d) (x9 := x9) (o0 := o0) (x1 := 0) (x2 := 7) h_q0_93 (hK I_93) ⟨_, _, _, _, _, _, _, q106, q107, q108, q109, q110, q111, q112, h113, Im.o h114, Im.o h115⟩ (by omega) I_93.start) rfl (Nat.le_of_ble_eq_true rfl) (Nat.le_of_ble_eq_true rfl) (Nat.le_of_ble_eq_true rfl) (hst := rfl) (fun b118r M119 n120 b118 => ?_)
            obtain ⟨T121, J122, v125, rfl, b126, b127, f128, f129, f130⟩ := b118
            have I123 := I_93.call J122 (tm_sub (by decide)) (Or.inl rfl)
            have t131 := J122.up h_q0_93
            have t132 := J122.up h_q1_93
            rw [show (0 : Int32).toInt = 0 from by decide] at f128 f129
            rw [show (7 : Int32).toInt = 7 from by decide] at f128 f129
            obtain ⟨s133, e134⟩ : ∃ s9 : p_S, p_num pb pn 0 7 s94 = s9 := ⟨_, rfl⟩
            rw [e134] at f128 f129
            obtain ⟨v135, v136, v137, v138, v139, v140, v141, q142, q143, q144, q145, q146, q147, q148, h149, h150, h151⟩ := f128
            replace h150 := Im.i h150
            replace h151 := Im.i h151
            obtain ⟨v152, q153, h154⟩ := f130
            have := mz_hi v125
            refine mv_if_neZ (tgt := 60) (a := v125.toInt) d_Reader_markClause_55 (by decide) rfl (fun b155 => ?_) (fun b155 => ?_)
            · refine mv_aload_n d_Reader_markClause_60 rfl rfl ?_
              refine mv_dup d_Reader_markClause_61 rfl ?_
              obtain ⟨v157, q156⟩ := tm_atI I123 t132 (k := 4) rfl
              refine tr_getK q156 d_Reader_markClause_62 f_Reader_163_6 ?_
              refine mv_iconst (v := 1) d_Reader_markClause_65 (by decide) ?_
              refine mv_aload_n d_Reader_markClause_66 rfl rfl ?_
              refine tr_getK (k := 14) q153 d_Reader_markClause_67 f_Reader_111_9 ?_
              refine mv_ishl d_Reader_markClause_70 ?_
              refine mv_ior d_Reader_markClause_71 ?_
              refine tr_putK tm_okF I123 t132 (k := 4) rfl ⟨_, rfl⟩ (Or.inl (by decide)) d_Reader_markClause_72 p_Reader_163_6 rfl rfl (fun M158 I159 q160 K161 => ?_)
              refine mv_iinc (v := (i2_93 + 1)) (lv' := [(2, .int (i2_93 + 1)), (0, .ref o0), (1, .ref o1)]) d_Reader_markClause_75 rfl rfl (by decide) rfl ?_
              refine mv_goto (tgt := 33) d_Reader_markClause_78 (by decide) ?_
              have : (i2_93 + 1 : Int32).toInt = i2_93.toInt + 1 := mz_addn 1 1 (by decide) (by omega) (by omega)
              have T162 : ∃ s1 : p_S, qS M158 o0 pb pn s1 ∧ s1.1 = 0 ∧ (i2_93 + 1).toInt ≤ (s1.2.2 : Int) ∧ p_lp pn (p_ma1 pb pn) s1 = p_mar pb pn (p_nx ps) := ⟨s133, ⟨_, _, _, _, _, _, _, (K161 _ 9 1 _ rfl q142), (K161 _ 9 2 _ rfl q143), (K161 _ 9 9 _ rfl q144), (K161 _ 9 10 _ rfl q145), (K161 _ 9 11 _ rfl q146), (K161 _ 9 12 _ rfl q147), (K161 _ 9 13 _ rfl q148), h149, Im.o h150, Im.o h151⟩, by omega, (by have h9 : s94.2.2 + 1 ≤ s133.2.2 := (by rw [← e134]; exact p_num_on (by rw [e134]; omega) (by omega)); omega), (by have := (Im.o h115) (by omega); have := yC.d s94.2.2; have := yC.kn s94.2.2; have st : (p_ma1 pb pn) s94 = s133 := (by rw [show (p_ma1 pb pn) s94 = p_num pb pn 0 7 s94 from if_pos ⟨by omega, p_num_ge (by rw [e134]; omega) (by omega)⟩]; simp only [e134]); rw [← st, p_P.go p_ma1_P s94]; exact e98)⟩
              have b163 : (i2_93 + 1).toInt = i2_93.toInt + 1 := mz_addn 1 1 (by decide) (by have := mz_lo i2_93; omega) (by have := mz_hi i2_93; omega)
              exact (ih93 (i2_93 + 1) T121 M158 n120 I159 t131 t132 (by first | omega | decide) T162 (by omega))
            · refine mv_iconst (v := 0) d_Reader_markClause_58 (by decide) ?_
              exact mv_iret d_Reader_markClause_59 rfl (by decide) ⟨_, I123, _, rfl, by decide, by decide, ⟨_, ⟨_, _, _, _, _, _, _, q142, q143, q144, q145, q146, q147, q148, h149, Im.o h150, Im.o h151⟩, (Or.inr ⟨by decide, by omega⟩), (fun h9 => absurd h9 (by omega)), (fun hb => by have := (Im.o h115) (by omega); have := yC.d s94.2.2; have := yC.kn s94.2.2; rw [← e98]; by_cases h9 : 0 ≤ p_nm pb pn s94.2.2; (rw [← p_P.go p_ma1_P s94, show p_ma1 pb pn s94 = s133 from (by rw [show p_ma1 pb pn s94 = p_num pb pn 0 7 s94 from if_pos ⟨by omega, h9⟩]; exact e134), p_lp_Z p_ma1_Z _ hb]; exact p_sg_Z _ hb); (rw [p_lp_stop (show p_ma1 pb pn s94 = s94 from if_neg (fun h8 => h9 h8.2)), ← e134]; unfold p_num p_sg; (repeat' split) <;> first | rfl | (exfalso; omega)))⟩⟩
    have T164 : ∃ s1 : p_S, qS M89 o0 pb pn s1 ∧ s1.1 = 0 ∧ 0 ≤ (s1.2.2 : Int) ∧ p_lp pn (p_ma1 pb pn) s1 = p_mar pb pn (p_nx ps) := ⟨s64, ⟨_, _, _, _, _, _, _, (K92 _ 9 1 _ rfl q73), (K92 _ 9 2 _ rfl q74), (K92 _ 9 9 _ rfl q75), (K92 _ 9 10 _ rfl q76), (K92 _ 9 11 _ rfl q77), (K92 _ 9 12 _ rfl q78), (K92 _ 9 13 _ rfl q79), h80, Im.o h81, Im.o h82⟩, by omega, (by show (0 : Int) ≤ _; omega), (by rw [← e65]; rw [← e31]; rfl)⟩
    exact mv_less (Nat.zero_le _) (Nat.zero_le _) (L33_93 4294967296 0 T52 M89 n51 I90 t62 t63 (by first | omega | decide) T164 (by show (2147483647 - (0 : Int) : Int) < _; decide))
  · refine mv_iconst (v := 0) d_Reader_markClause_14 (by decide) ?_
    exact mv_iret d_Reader_markClause_15 rfl (by decide) ⟨_, I54, _, rfl, by decide, by decide, ⟨_, ⟨_, _, _, _, _, _, _, q73, q74, q75, q76, q77, q78, q79, h80, Im.o h81, Im.o h82⟩, (Or.inr ⟨by decide, by omega⟩), (fun h9 => absurd h9 (by omega)), (fun hb => by unfold p_mar; simp only [e31, e65]; rw [p_lp_Z p_ma1_Z _ hb]; exact p_sg_Z _ hb)⟩⟩
def w_Reader_trustClause_x : List Nat := [605, 606, 901, 902, 909, 910, 911, 912, 913, 914]
set_option maxHeartbeats 100000000 in theorem tc_Reader_trustClause_x {g : mj_G} {l : Launch} {d : Nat} {T0 : tm_H} {M0 : mj_M} {n0 x9 : Nat} {o0 : Nat} {o1 : Nat} (h_o0 : T0 o0 = some (0, 9, 0)) (h_o1 : T0 o1 = some (0, 6, 0))  {pb : Nat → Int} {pn : Nat} {pa : Int} {ps : p_S} (yC : qC M0 o0 pb pn pa) (yD : qS M0 o0 pb pn ps) (yw : ps.1 = 0) (yz : p_ki pb pn ps.2.2 ≠ 0) (I0 : tm_I tm_FT (tm_in w_Reader_trustClause_x) x9 T0 M0 n0 T0 M0 n0) : mj_Met g l kY_Reader_trustClause (d + 2) [.ref o0, .ref o1] M0 n0 0 0 (tm_Q tm_FT (tm_in w_Reader_trustClause_x) x9 T0 M0 n0 (fun r _ M => ∃ v : Int32, r = some (.int v) ∧ 0 ≤ v.toInt ∧ v.toInt ≤ 1 ∧ (qS M o0 pb pn (p_tru pb pn (p_nx ps))) ∧ (v.toInt = 1 ∧ (p_tru pb pn (p_nx ps)).1 = 0 ∨ v.toInt = 0 ∧ (p_tru pb pn (p_nx ps)).1 ≠ 0))) := by
  refine mj_enter (by decide) (Nat.le_of_ble_eq_true rfl) ?_
  have hK : ∀ {T : tm_H} {M : mj_M} {n : Nat}, tm_I tm_FT (tm_in w_Reader_trustClause_x) x9 T0 M0 n0 T M n → qC M o0 pb pn pa := fun I => yC.keep I0.1 I h_o0 (qW_of (by decide +kernel))
  obtain ⟨v1, v2, v3, v4, v5, v6, v7, q8, q9, q10, q11, q12, q13, q14, h15, h16, h17⟩ := yD
  replace h16 := Im.i h16
  replace h17 := Im.i h17
  have := yC.kn ps.2.2
  refine mv_aload_n d_Reader_trustClause_0 rfl rfl ?_
  obtain ⟨_, b24, -⟩ := I0.1 _ _ h_o0
  refine mv_callV (kc' := 0) (ks' := 0) (As := []) (st9 := [.ref o0]) d_Reader_trustClause_1 lV_Reader_82 b24 rfl (tc_Reader_advance_x (d := (d + 1)) (x9 := x9) (o0 := o0) h_o0 (hK I0) (qS.a (show qS M0 o0 pb pn ps from ⟨_, _, _, _, _, _, _, q8, q9, q10, q11, q12, q13, q14, h15, Im.o h16, Im.o h17⟩)) (by show ps.2.2 + 1 ≤ 401; omega) I0.start) rfl (Nat.le_of_ble_eq_true rfl) (Nat.le_of_ble_eq_true rfl) (Nat.le_of_ble_eq_true rfl) (hst := rfl) (fun b18r M19 n20 b18 => ?_)
  obtain ⟨T21, J22, rfl, f25⟩ := b18
  have I23 := I0.call J22 (tm_sub (by decide)) (Or.inl rfl)
  have t26 := J22.up h_o0
  have t27 := J22.up h_o1
  have q28 := J22.keep h_o0 (by decide) q8
  have q29 := J22.keep h_o0 (by decide) q9
  obtain ⟨s30, e31⟩ : ∃ s9 : p_S, p_nx ps = s9 := ⟨_, rfl⟩
  rw [e31] at f25
  have : s30.1 = 0 := by rw [← e31]; show ps.1 = 0; omega
  obtain ⟨v32, v33, v34, v35, v36, v37, v38, q39, q40, q41, q42, q43, q44, q45, h46, h47, h48⟩ := f25
  replace h47 := Im.i h47
  replace h48 := Im.i h48
  refine mv_aload_n d_Reader_trustClause_4 rfl rfl ?_
  refine mv_iconst (v := 1) d_Reader_trustClause_5 (by decide) ?_
  refine mv_bipush (v := 7) d_Reader_trustClause_6 (by decide) ?_
  obtain ⟨_, b55, -⟩ := I23.1 _ _ t26
  refine mv_callV (kc' := 0) (ks' := 0) (As := [.int 1, .int 7]) (st9 := [.int 7, .int 1, .ref o0]) d_Reader_trustClause_8 lV_Reader_107 b55 rfl (tc_Reader_numeral_x (d := d) (x9 := x9) (o0 := o0) (x1 := 1) (x2 := 7) t26 (hK I23) ⟨_, _, _, _, _, _, _, q39, q40, q41, q42, q43, q44, q45, h46, Im.o h47, Im.o h48⟩ (by omega) I23.start) rfl (Nat.le_of_ble_eq_true rfl) (Nat.le_of_ble_eq_true rfl) (Nat.le_of_ble_eq_true rfl) (hst := rfl) (fun b49r M50 n51 b49 => ?_)
  obtain ⟨T52, J53, v56, rfl, b57, b58, f59, f60, f61⟩ := b49
  have I54 := I23.call J53 (tm_sub (by decide)) (Or.inl rfl)
  have t62 := J53.up t26
  have t63 := J53.up t27
  rw [show (1 : Int32).toInt = 1 from by decide] at f59 f60
  rw [show (7 : Int32).toInt = 7 from by decide] at f59 f60
  obtain ⟨s64, e65⟩ : ∃ s9 : p_S, p_num pb pn 1 7 s30 = s9 := ⟨_, rfl⟩
  rw [e65] at f59 f60
  obtain ⟨v66, v67, v68, v69, v70, v71, v72, q73, q74, q75, q76, q77, q78, q79, h80, h81, h82⟩ := f59
  replace h81 := Im.i h81
  replace h82 := Im.i h82
  obtain ⟨v83, q84, h85⟩ := f61
  have := mz_hi v56
  refine mv_if_neZ (tgt := 16) (a := v56.toInt) d_Reader_trustClause_11 (by decide) rfl (fun b86 => ?_) (fun b86 => ?_)
  · refine mv_aload_n d_Reader_trustClause_16 rfl rfl ?_
    refine tr_getK (k := 14) q84 d_Reader_trustClause_17 f_Reader_111_9 ?_
    refine mv_istore_n (lv' := [(2, .int v83), (0, .ref o0), (1, .ref o1)]) d_Reader_trustClause_20 rfl (by decide) rfl ?_
    refine mv_aload_n d_Reader_trustClause_21 rfl rfl ?_
    refine mv_iconst (v := 1) d_Reader_trustClause_22 (by decide) ?_
    refine mv_iload_n d_Reader_trustClause_23 rfl rfl ?_
    obtain ⟨_, b93, -⟩ := I54.1 _ _ t62
    refine mv_callV (kc' := 0) (ks' := 0) (As := [.int 1, .int v83]) (st9 := [.int v83, .int 1, .ref o0]) d_Reader_trustClause_24 lV_Reader_107 b93 rfl (tc_Reader_numeral_x (d := d) (x9 := x9) (o0 := o0) (x1 := 1) (x2 := v83) t62 (hK I54) ⟨_, _, _, _, _, _, _, q73, q74, q75, q76, q77, q78, q79, h80, Im.o h81, Im.o h82⟩ (by omega) I54.start) rfl (Nat.le_of_ble_eq_true rfl) (Nat.le_of_ble_eq_true rfl) (Nat.le_of_ble_eq_true rfl) (hst := rfl) (fun b87r M88 n89 b87 => ?_)
    obtain ⟨T90, J91, v94, rfl, b95, b96, f97, f98, f99⟩ := b87
    have I92 := I54.call J91 (tm_sub (by decide)) (Or.inl rfl)
    have t100 := J91.up t62
    have t101 := J91.up t63
    rw [show (1 : Int32).toInt = 1 from by decide] at f97 f98
    rw [show v83.toInt = p_nm pb pn s30.2.2 from by omega] at f97 f98
    obtain ⟨s102, e103⟩ : ∃ s9 : p_S, p_num pb pn 1 (p_nm pb pn s30.2.2) s64 = s9 := ⟨_, rfl⟩
    rw [e103] at f97 f98
    obtain ⟨v104, v105, v106, v107, v108, v109, v110, q111, q112, q113, q114, q115, q116, q117, h118, h119, h120⟩ := f97
    replace h119 := Im.i h119
    replace h120 := Im.i h120
    obtain ⟨v121, q122, h123⟩ := f99
    have := mz_hi v94
    refine mv_if_neZ (tgt := 32) (a := v94.toInt) d_Reader_trustClause_27 (by decide) rfl (fun b124 => ?_) (fun b124 => ?_)
    · refine mv_aload_n d_Reader_trustClause_32 rfl rfl ?_
      refine mv_iload_n d_Reader_trustClause_33 rfl rfl ?_
      refine tr_putK tm_okF I92 t101 (k := 5) rfl ⟨_, rfl⟩ (Or.inl (by decide)) d_Reader_trustClause_34 p_Reader_166_6 rfl rfl (fun M125 I126 q127 K128 => ?_)
      refine mv_aload_n d_Reader_trustClause_37 rfl rfl ?_
      refine mv_aload_n d_Reader_trustClause_38 rfl rfl ?_
      refine tr_getK (k := 14) (K128 _ 9 14 _ rfl q122) d_Reader_trustClause_39 f_Reader_111_9 ?_
      refine tr_putK tm_okF I126 t101 (k := 6) rfl ⟨_, rfl⟩ (Or.inl (by decide)) d_Reader_trustClause_42 p_Reader_169_6 rfl rfl (fun M129 I130 q131 K132 => ?_)
      refine mv_iconst (v := 1) d_Reader_trustClause_45 (by decide) ?_
      exact mv_iret d_Reader_trustClause_46 rfl (by decide) ⟨_, I130, _, rfl, by decide, by decide, (by have eT : p_tru pb pn (p_nx ps) = s102 := (by unfold p_tru; (try simp only [e31, e65, e103]); (first | done | (((repeat' (first | (with_reducible rfl) | split)) <;> (first | ((try simp only [e31, e65, e103]); done) | (exfalso; omega)))))); rw [eT]; exact ⟨⟨_, _, _, _, _, _, _, (K132 _ 9 1 _ rfl (K128 _ 9 1 _ rfl q111)), (K132 _ 9 2 _ rfl (K128 _ 9 2 _ rfl q112)), (K132 _ 9 9 _ rfl (K128 _ 9 9 _ rfl q113)), (K132 _ 9 10 _ rfl (K128 _ 9 10 _ rfl q114)), (K132 _ 9 11 _ rfl (K128 _ 9 11 _ rfl q115)), (K132 _ 9 12 _ rfl (K128 _ 9 12 _ rfl q116)), (K132 _ 9 13 _ rfl (K128 _ 9 13 _ rfl q117)), h118, Im.o h119, Im.o h120⟩, (Or.inl ⟨by first | decide | omega, by omega⟩)⟩)⟩
    · refine mv_iconst (v := 0) d_Reader_trustClause_30 (by decide) ?_
      exact mv_iret d_Reader_trustClause_31 rfl (by decide) ⟨_, I92, _, rfl, by decide, by decide, (by have hb : s102.1 ≠ 0 := (by omega); have z1 : ∀ c, p_sg pb pn c s102 = s102 := (fun c => p_sg_Z s102 hb); have z2 : ∀ c, p_wd pb pn c s102 = s102 := (fun c => p_wd_Z s102 hb); have z3 : ∀ op, p_sum pb pn pa op s102 = s102 := (fun op => p_sum_Z s102 hb); have z4 : ∀ r oc, p_con pb pn pa r oc s102 = s102 := (fun r oc => p_con_Z s102 hb); have z5 : p_prt pb pn s102 = s102 := p_prt_Z s102 hb; have z6 : ∀ lo hi, p_num pb pn lo hi s102 = s102 := (fun lo hi => p_num_Z s102 hb); have eT : p_tru pb pn (p_nx ps) = s102 := (by unfold p_tru; (try simp only [e31, e65, e103, z1, z2, z3, z4, z5, z6]); (first | done | (((repeat' (first | (with_reducible rfl) | split)) <;> (first | ((try simp only [e31, e65, e103, z1, z2, z3, z4, z5, z6]); done) | (exfalso; omega)))))); rw [eT]; exact ⟨⟨_, _, _, _, _, _, _, q111, q112, q113, q114, q115, q116, q117, h118, Im.o h119, Im.o h120⟩, (Or.inr ⟨by first | decide | omega, by omega⟩)⟩)⟩
  · refine mv_iconst (v := 0) d_Reader_trustClause_14 (by decide) ?_
    exact mv_iret d_Reader_trustClause_15 rfl (by decide) ⟨_, I54, _, rfl, by decide, by decide, (by have hb : s64.1 ≠ 0 := (by omega); have z1 : ∀ c, p_sg pb pn c s64 = s64 := (fun c => p_sg_Z s64 hb); have z2 : ∀ c, p_wd pb pn c s64 = s64 := (fun c => p_wd_Z s64 hb); have z3 : ∀ op, p_sum pb pn pa op s64 = s64 := (fun op => p_sum_Z s64 hb); have z4 : ∀ r oc, p_con pb pn pa r oc s64 = s64 := (fun r oc => p_con_Z s64 hb); have z5 : p_prt pb pn s64 = s64 := p_prt_Z s64 hb; have z6 : ∀ lo hi, p_num pb pn lo hi s64 = s64 := (fun lo hi => p_num_Z s64 hb); have eT : p_tru pb pn (p_nx ps) = s64 := (by unfold p_tru; (try simp only [e31, e65, z1, z2, z3, z4, z5, z6]); (first | done | (((repeat' (first | (with_reducible rfl) | split)) <;> (first | ((try simp only [e31, e65, z1, z2, z3, z4, z5, z6]); done) | (exfalso; omega)))))); rw [eT]; exact ⟨⟨_, _, _, _, _, _, _, q73, q74, q75, q76, q77, q78, q79, h80, Im.o h81, Im.o h82⟩, (Or.inr ⟨by first | decide | omega, by omega⟩)⟩)⟩
