def w_Reader_ruleNumber_x : List Nat := [153, 901, 902, 909, 910, 911, 912, 913, 914]
set_option maxHeartbeats 100000000 in theorem tc_Reader_ruleNumber_x {g : mj_G} {l : Launch} {d : Nat} {T0 : tm_H} {M0 : mj_M} {n0 x9 : Nat} {o0 : Nat} {o1 : Nat} {x2 : Int32} (h_o0 : T0 o0 = some (0, 9, 0)) (h_o1 : T0 o1 = some (0, 1, 0))  {pb : Nat → Int} {pn : Nat} {pa : Int} {ps : p_S} (yC : qC M0 o0 pb pn pa) (yD : qS M0 o0 pb pn ps) (yw : ps.1 = 0) (yx : 0 ≤ x2.toInt ∧ x2.toInt ≤ 5) (I0 : tm_I tm_FT (tm_in w_Reader_ruleNumber_x) x9 T0 M0 n0 T0 M0 n0) : mj_Met g l kY_Reader_ruleNumber (d + 2) [.ref o0, .ref o1, .int x2] M0 n0 0 0 (tm_Q tm_FT (tm_in w_Reader_ruleNumber_x) x9 T0 M0 n0 (fun r _ M => ∃ v : Int32, r = some (.int v) ∧ 0 ≤ v.toInt ∧ v.toInt ≤ 1 ∧ (qS M o0 pb pn (p_num pb pn (p_lo (x2.toInt + 13)) (p_hi (x2.toInt + 13)) ps)) ∧ (v.toInt = 1 ∧ (p_num pb pn (p_lo (x2.toInt + 13)) (p_hi (x2.toInt + 13)) ps).1 = 0 ∨ v.toInt = 0 ∧ (p_num pb pn (p_lo (x2.toInt + 13)) (p_hi (x2.toInt + 13)) ps).1 ≠ 0))) := by
  refine mj_enter (by decide) (Nat.le_of_ble_eq_true rfl) ?_
  have hK : ∀ {T : tm_H} {M : mj_M} {n : Nat}, tm_I tm_FT (tm_in w_Reader_ruleNumber_x) x9 T0 M0 n0 T M n → qC M o0 pb pn pa := fun I => yC.keep I0.1 I h_o0 (qW_of (by decide +kernel))
  obtain ⟨v1, v2, v3, v4, v5, v6, v7, q8, q9, q10, q11, q12, q13, q14, h15, h16, h17⟩ := yD
  replace h16 := Im.i h16
  replace h17 := Im.i h17
  refine mv_iload_n d_Reader_ruleNumber_0 rfl rfl ?_
  have := mz_hi x2
  refine mv_if_ltZ (tgt := 37) (a := x2.toInt) d_Reader_ruleNumber_1 (by decide) rfl (fun b18 => ?_) (fun b18 => ?_)
  · refine mv_iconst (v := 0) d_Reader_ruleNumber_37 (by decide) ?_
    exact mv_iret d_Reader_ruleNumber_38 rfl (by decide) ⟨_, I0, _, rfl, by decide, by decide, (by exfalso; omega)⟩
  · refine mv_iload_n d_Reader_ruleNumber_4 rfl rfl ?_
    refine mv_gets2 d_Reader_ruleNumber_5 (mj_in1 (List.mem_of_getElem? (i := 617) (by decide +kernel)) rfl) ?_
    refine mv_alen2 d_Reader_ruleNumber_8 ?_
    have := mz_hi x2
    refine mv_icmp_geZ (tgt := 37) (a := x2.toInt) (b := 6) d_Reader_ruleNumber_9 (by decide) rfl (by decide) (fun b19 => ?_) (fun b19 => ?_)
    · refine mv_iconst (v := 0) d_Reader_ruleNumber_37 (by decide) ?_
      exact mv_iret d_Reader_ruleNumber_38 rfl (by decide) ⟨_, I0, _, rfl, by decide, by decide, (by exfalso; omega)⟩
    · refine mv_iload_n d_Reader_ruleNumber_12 rfl rfl ?_
      refine mv_gets3 d_Reader_ruleNumber_13 (mj_in1 (List.mem_of_getElem? (i := 619) (by decide +kernel)) rfl) ?_
      refine mv_alen3 d_Reader_ruleNumber_16 ?_
      have := mz_hi x2
      refine mv_icmp_geZ (tgt := 37) (a := x2.toInt) (b := 6) d_Reader_ruleNumber_17 (by decide) rfl (by decide) (fun b20 => absurd b20 (by omega)) (fun b20 => ?_)
      refine mv_aload_n d_Reader_ruleNumber_20 rfl rfl ?_
      refine mv_gets2 d_Reader_ruleNumber_21 (mj_in1 (List.mem_of_getElem? (i := 617) (by decide +kernel)) rfl) ?_
      refine mv_iload_n d_Reader_ruleNumber_24 rfl rfl ?_
      obtain ⟨v21, q22⟩ := tm_rl (i := x2) (by omega) (by omega)
      have := tm_rlv (i := x2) (by omega) (by omega) q22
      refine mv_iald2 (v := v21) d_Reader_ruleNumber_25 (vp_in_iff.mpr (by omega)) q22 ?_
      refine mv_gets3 d_Reader_ruleNumber_26 (mj_in1 (List.mem_of_getElem? (i := 619) (by decide +kernel)) rfl) ?_
      refine mv_iload_n d_Reader_ruleNumber_29 rfl rfl ?_
      obtain ⟨v23, q24⟩ := tm_rm (i := x2) (by omega) (by omega)
      have := tm_rmv (i := x2) (by omega) (by omega) q24
      refine mv_iald3 (v := v23) d_Reader_ruleNumber_30 (vp_in_iff.mpr (by omega)) q24 ?_
      obtain ⟨_, b31, -⟩ := I0.1 _ _ h_o0
      refine mv_callV (kc' := 0) (ks' := 0) (As := [.int v21, .int v23]) (st9 := [.int v23, .int v21, .ref o0]) d_Reader_ruleNumber_31 lV_Reader_107 b31 rfl (tc_Reader_numeral_x (d := d) (x9 := x9) (o0 := o0) (x1 := v21) (x2 := v23) h_o0 (hK I0) ⟨_, _, _, _, _, _, _, q8, q9, q10, q11, q12, q13, q14, h15, Im.o h16, Im.o h17⟩ (by omega) I0.start) rfl (Nat.le_of_ble_eq_true rfl) (Nat.le_of_ble_eq_true rfl) (Nat.le_of_ble_eq_true rfl) (hst := rfl) (fun b25r M26 n27 b25 => ?_)
      obtain ⟨T28, J29, v32, rfl, b33, b34, f35, f36, f37⟩ := b25
      have I30 := I0.call J29 (tm_sub (by decide)) (Or.inl rfl)
      have t38 := J29.up h_o0
      have t39 := J29.up h_o1
      rw [show v21.toInt = p_lo (x2.toInt + 13) from by omega, show v23.toInt = p_hi (x2.toInt + 13) from by omega] at f35 f36
      obtain ⟨s40, e41⟩ : ∃ s9 : p_S, p_num pb pn (p_lo (x2.toInt + 13)) (p_hi (x2.toInt + 13)) ps = s9 := ⟨_, rfl⟩
      rw [e41] at f35 f36
      obtain ⟨v42, v43, v44, v45, v46, v47, v48, q49, q50, q51, q52, q53, q54, q55, h56, h57, h58⟩ := f35
      replace h57 := Im.i h57
      replace h58 := Im.i h58
      obtain ⟨v59, q60, h61⟩ := f37
      have := mz_hi v32
      refine mv_if_neZ (tgt := 39) (a := v32.toInt) d_Reader_ruleNumber_34 (by decide) rfl (fun b62 => ?_) (fun b62 => ?_)
      · refine mv_aload_n d_Reader_ruleNumber_39 rfl rfl ?_
        refine mv_iload_n d_Reader_ruleNumber_40 rfl rfl ?_
        refine mv_aload_n d_Reader_ruleNumber_41 rfl rfl ?_
        refine tr_getK (k := 14) q60 d_Reader_ruleNumber_42 f_Reader_111_9 ?_
        obtain ⟨_, b69, -⟩ := I30.1 _ _ t39
        refine mv_callV (kc' := 0) (ks' := 0) (As := [.int x2, .int v59]) (st9 := [.int v59, .int x2, .ref o1]) d_Reader_ruleNumber_45 lV_Reader_114 b69 rfl (tc_Act_setRule (d := (d + 1)) (x9 := x9) (o0 := o1) (x1 := x2) (x2 := v59) t39 I30.start) rfl (Nat.le_of_ble_eq_true rfl) (Nat.le_of_ble_eq_true rfl) (Nat.le_of_ble_eq_true rfl) (hst := rfl) (fun b63r M64 n65 b63 => ?_)
        obtain ⟨T66, J67, rfl⟩ := b63
        have I68 := I30.call J67 (tm_sub (by decide)) (Or.inl rfl)
        have t70 := J67.up t38
        have t71 := J67.up t39
        have q72 := J67.keep (I30.up h_o0) (by decide) q49
        have q73 := J67.keep (I30.up h_o0) (by decide) q50
        have q74 := J67.keep (I30.up h_o0) (by decide) q51
        have q75 := J67.keep (I30.up h_o0) (by decide) q52
        have q76 := J67.keep (I30.up h_o0) (by decide) q53
        have q77 := J67.keep (I30.up h_o0) (by decide) q54
        have q78 := J67.keep (I30.up h_o0) (by decide) q55
        have q79 := J67.keep (I30.up h_o0) (by decide) q60
        refine mv_iconst (v := 1) d_Reader_ruleNumber_48 (by decide) ?_
        exact mv_iret d_Reader_ruleNumber_49 rfl (by decide) ⟨_, I68, _, rfl, by decide, by decide, (by have eT : p_num pb pn (p_lo (x2.toInt + 13)) (p_hi (x2.toInt + 13)) ps = s40 := (by (try simp only [e41])); rw [eT]; exact ⟨⟨_, _, _, _, _, _, _, q72, q73, q74, q75, q76, q77, q78, h56, Im.o h57, Im.o h58⟩, (Or.inl ⟨by first | decide | omega, by omega⟩)⟩)⟩
      · refine mv_iconst (v := 0) d_Reader_ruleNumber_37 (by decide) ?_
        exact mv_iret d_Reader_ruleNumber_38 rfl (by decide) ⟨_, I30, _, rfl, by decide, by decide, (by have hb : s40.1 ≠ 0 := (by omega); have z1 : ∀ c, p_sg pb pn c s40 = s40 := (fun c => p_sg_Z s40 hb); have z2 : ∀ c, p_wd pb pn c s40 = s40 := (fun c => p_wd_Z s40 hb); have z3 : ∀ op, p_sum pb pn pa op s40 = s40 := (fun op => p_sum_Z s40 hb); have z4 : ∀ r oc, p_con pb pn pa r oc s40 = s40 := (fun r oc => p_con_Z s40 hb); have z5 : p_prt pb pn s40 = s40 := p_prt_Z s40 hb; have eT : p_num pb pn (p_lo (x2.toInt + 13)) (p_hi (x2.toInt + 13)) ps = s40 := (by (try simp only [e41, z1, z2, z3, z4, z5])); rw [eT]; exact ⟨⟨_, _, _, _, _, _, _, q49, q50, q51, q52, q53, q54, q55, h56, Im.o h57, Im.o h58⟩, (Or.inr ⟨by first | decide | omega, by omega⟩)⟩)⟩
def w_Reader_bar_q4_x : List Nat := [154, 901, 902, 909, 910, 911, 912, 913, 914, 916, 918, 967, 5002]
set_option maxHeartbeats 100000000 in theorem tc_Reader_bar_q4_x {g : mj_G} {l : Launch} {d : Nat} {T0 : tm_H} {M0 : mj_M} {n0 x9 : Nat} {o0 : Nat} {o1 : Nat} (h_o0 : T0 o0 = some (0, 9, 0)) (h_o1 : T0 o1 = some (0, 1, 0)) {p : Int32} (hO : tm_at M0 o0 9 16 (.int p)) (hp : 0 ≤ p.toInt)  (hp2 : p.toInt ≤ 0) {pb : Nat → Int} {pn : Nat} {pa : Int} {ps : p_S} (yC : qC M0 o0 pb pn pa) (yD : qS M0 o0 pb pn ps) (yw : ps.1 = 0) (I0 : tm_I tm_FT (tm_in w_Reader_bar_q4_x) x9 T0 M0 n0 T0 M0 n0) : mj_Met g l kY_Reader_bar (d + 20) [.ref o0, .ref o1] M0 n0 3 451 (tm_Q tm_FT (tm_in w_Reader_bar_q4_x) x9 T0 M0 n0 (fun r _ M => ∃ v : Int32, r = some (.int v) ∧ 0 ≤ v.toInt ∧ v.toInt ≤ 1 ∧ (v.toInt = 1 → tm_at M o0 9 16 (.int p)) ∧ (qS M o0 pb pn (p_bar pb pn pa ps)) ∧ (v.toInt = 1 ∧ (p_bar pb pn pa ps).1 = 0 ∨ v.toInt = 0 ∧ (p_bar pb pn pa ps).1 ≠ 0))) := by
  refine mj_enter (by decide) (Nat.le_of_ble_eq_true rfl) ?_
  have hK : ∀ {T : tm_H} {M : mj_M} {n : Nat}, tm_I tm_FT (tm_in w_Reader_bar_q4_x) x9 T0 M0 n0 T M n → qC M o0 pb pn pa := fun I => yC.keep I0.1 I h_o0 (qW_of (by decide +kernel))
  obtain ⟨v1, v2, v3, v4, v5, v6, v7, q8, q9, q10, q11, q12, q13, q14, h15, h16, h17⟩ := yD
  replace h16 := Im.i h16
  replace h17 := Im.i h17
  refine mv_aload_n d_Reader_bar_0 rfl rfl ?_
  refine mv_bipush (v := 19) d_Reader_bar_1 (by decide) ?_
  refine mv_iconst (v := 4) d_Reader_bar_3 (by decide) ?_
  obtain ⟨_, b18, -⟩ := I0.1 _ _ h_o0
  refine mv_callV (kc1 := 0) (ks1 := 0) (kc' := 3) (ks' := 451) (As := [.int 19, .int 4]) (st9 := [.int 4, .int 19, .ref o0]) d_Reader_bar_4 lV_Reader_85 b18 rfl (mj_enter (by decide) (Nat.le_of_ble_eq_true rfl) ?_) rfl (Nat.le_of_ble_eq_true rfl) (Nat.le_of_ble_eq_true rfl) (Nat.le_of_ble_eq_true rfl) (hst := rfl) (fun _ _ _ h => h)
  refine mv_aload_n d_Reader_valueAmong_0 rfl rfl ?_
  refine tr_getK (k := 10) q11 d_Reader_valueAmong_1 f_Reader_41_9 ?_
  refine mv_iconst (v := 1) d_Reader_valueAmong_4 (by decide) ?_
  have := mz_hi v4
  refine mv_icmp_neZ (tgt := 35) (a := v4.toInt) (b := 1) d_Reader_valueAmong_5 (by decide) rfl (by decide) (fun b19 => ?_) (fun b19 => ?_)
  · refine mv_iconst (v := (-1)) d_Reader_valueAmong_35 (by decide) ?_
    refine mv_iret d_Reader_valueAmong_36 rfl (by first | rfl | decide) ?_
    refine mv_istore_n (lv' := [(2, .int (-1)), (0, .ref o0), (1, .ref o1)]) d_Reader_bar_7 rfl (by decide) rfl ?_
    refine mv_iload_n d_Reader_bar_8 rfl rfl ?_
    refine mv_iconst (v := (-1)) d_Reader_bar_9 (by decide) ?_
    refine mv_icmp_ne_f (tgt := 19) d_Reader_bar_10 (by decide) (by decide) ?_
    refine mv_aload_n d_Reader_bar_13 rfl rfl ?_
    refine mv_iconst (v := 1) d_Reader_bar_14 (by decide) ?_
    obtain ⟨_, b20, -⟩ := I0.1 _ _ h_o0
    refine mv_callV (kc1 := 0) (ks1 := 0) (kc' := 0) (ks' := 0) (As := [.int 1]) (st9 := [.int 1, .ref o0]) d_Reader_bar_15 lV_Reader_56 b20 rfl (mj_enter (by decide) (Nat.le_of_ble_eq_true rfl) ?_) rfl (Nat.le_of_ble_eq_true rfl) (Nat.le_of_ble_eq_true rfl) (Nat.le_of_ble_eq_true rfl) (hst := rfl) (fun _ _ _ h => h)
    refine mv_aload_n d_Reader_refuse_0 rfl rfl ?_
    refine mv_iload_n d_Reader_refuse_1 rfl rfl ?_
    refine tr_putK tm_okF I0 h_o0 (k := 1) rfl ⟨_, rfl⟩ (Or.inl (by decide)) d_Reader_refuse_2 p_Reader_70_9 rfl rfl (fun M21 I22 q23 K24 => ?_)
    refine mv_aload_n d_Reader_refuse_5 rfl rfl ?_
    refine mv_aload_n d_Reader_refuse_6 rfl rfl ?_
    refine tr_getK (k := 11) (K24 _ 9 11 _ rfl q12) d_Reader_refuse_7 f_Reader_175_9 ?_
    refine tr_putK tm_okF I22 h_o0 (k := 2) rfl ⟨_, rfl⟩ (Or.inl (by decide)) d_Reader_refuse_10 p_Reader_11_9 rfl rfl (fun M25 I26 q27 K28 => ?_)
    refine mv_iconst (v := 0) d_Reader_refuse_13 (by decide) ?_
    obtain ⟨s29, e30⟩ : ∃ s9 : p_S, p_fl pb pn 1 ps = s9 := ⟨_, rfl⟩
    have h31 := q_fl e30 (by omega) (by decide)
    have h32 : (1 : Int32).toInt = s29.1 := (by have e9 : (1 : Int32).toInt = 1 := (by decide); omega)
    have h33 : Im (s29.1 ≠ 0 → v5.toInt = (s29.2.1 : Int)) := Im.i (fun _ => by have := (Im.o h17) (by omega); omega)
    have h34 : Im (s29.1 = 0 → v3.toInt = (s29.2.2 : Int) ∧ v4.toInt = p_ki pb pn s29.2.2 ∧ v5.toInt = (p_st pb pn s29.2.2 : Int) ∧ v6.toInt = (p_sp pb pn s29.2.2 : Int) ∧ v7.toInt = p_va pb pn s29.2.2 ∧ v5.toInt = -1) := Im.i (fun z9 => absurd z9 h31.2.2)
    refine mv_iret d_Reader_refuse_14 rfl (by decide) ?_
    exact mv_iret d_Reader_bar_18 rfl (by decide) ⟨_, I26, _, rfl, by decide, by decide, fun h => absurd h (by decide), (by have := (Im.o h17) (by omega); have := yC.d ps.2.2; have := yC.kn ps.2.2; have hb : s29.1 ≠ 0 := (by omega); have z1 : ∀ c, p_sg pb pn c s29 = s29 := (fun c => p_sg_Z s29 hb); have z2 : ∀ c, p_wd pb pn c s29 = s29 := (fun c => p_wd_Z s29 hb); have z3 : ∀ op, p_sum pb pn pa op s29 = s29 := (fun op => p_sum_Z s29 hb); have z4 : ∀ r oc, p_con pb pn pa r oc s29 = s29 := (fun r oc => p_con_Z s29 hb); have z5 : p_prt pb pn s29 = s29 := p_prt_Z s29 hb; have eT : p_bar pb pn pa ps = s29 := (by unfold p_bar; (try simp only [e30, z1, z2, z3, z4, z5]); ((repeat' (first | (with_reducible rfl) | split)) <;> (first | ((try simp only [e30, z1, z2, z3, z4, z5]); done) | (exfalso; omega)))); rw [eT]; exact ⟨⟨_, _, _, _, _, _, _, (K28 _ 9 1 _ rfl q23), q27, (K28 _ 9 9 _ rfl (K24 _ 9 9 _ rfl q10)), (K28 _ 9 10 _ rfl (K24 _ 9 10 _ rfl q11)), (K28 _ 9 11 _ rfl (K24 _ 9 11 _ rfl q12)), (K28 _ 9 12 _ rfl (K24 _ 9 12 _ rfl q13)), (K28 _ 9 13 _ rfl (K24 _ 9 13 _ rfl q14)), h32, Im.o h33, Im.o h34⟩, (Or.inr ⟨by first | decide | omega, by omega⟩)⟩)⟩
  · refine mv_aload_n d_Reader_valueAmong_8 rfl rfl ?_
    refine tr_getK (k := 13) q14 d_Reader_valueAmong_9 f_Reader_241_9 ?_
    refine mv_iload_n d_Reader_valueAmong_12 rfl rfl ?_
    have := mz_hi v7
    refine mv_icmp_ltZ (tgt := 35) (a := v7.toInt) (b := 19) d_Reader_valueAmong_13 (by decide) rfl (by decide) (fun b35 => ?_) (fun b35 => ?_)
    · refine mv_iconst (v := (-1)) d_Reader_valueAmong_35 (by decide) ?_
      refine mv_iret d_Reader_valueAmong_36 rfl (by first | rfl | decide) ?_
      refine mv_istore_n (lv' := [(2, .int (-1)), (0, .ref o0), (1, .ref o1)]) d_Reader_bar_7 rfl (by decide) rfl ?_
      refine mv_iload_n d_Reader_bar_8 rfl rfl ?_
      refine mv_iconst (v := (-1)) d_Reader_bar_9 (by decide) ?_
      refine mv_icmp_ne_f (tgt := 19) d_Reader_bar_10 (by decide) (by decide) ?_
      refine mv_aload_n d_Reader_bar_13 rfl rfl ?_
      refine mv_iconst (v := 1) d_Reader_bar_14 (by decide) ?_
      obtain ⟨_, b36, -⟩ := I0.1 _ _ h_o0
      refine mv_callV (kc1 := 0) (ks1 := 0) (kc' := 0) (ks' := 0) (As := [.int 1]) (st9 := [.int 1, .ref o0]) d_Reader_bar_15 lV_Reader_56 b36 rfl (mj_enter (by decide) (Nat.le_of_ble_eq_true rfl) ?_) rfl (Nat.le_of_ble_eq_true rfl) (Nat.le_of_ble_eq_true rfl) (Nat.le_of_ble_eq_true rfl) (hst := rfl) (fun _ _ _ h => h)
      refine mv_aload_n d_Reader_refuse_0 rfl rfl ?_
      refine mv_iload_n d_Reader_refuse_1 rfl rfl ?_
      refine tr_putK tm_okF I0 h_o0 (k := 1) rfl ⟨_, rfl⟩ (Or.inl (by decide)) d_Reader_refuse_2 p_Reader_70_9 rfl rfl (fun M37 I38 q39 K40 => ?_)
      refine mv_aload_n d_Reader_refuse_5 rfl rfl ?_
      refine mv_aload_n d_Reader_refuse_6 rfl rfl ?_
      refine tr_getK (k := 11) (K40 _ 9 11 _ rfl q12) d_Reader_refuse_7 f_Reader_175_9 ?_
      refine tr_putK tm_okF I38 h_o0 (k := 2) rfl ⟨_, rfl⟩ (Or.inl (by decide)) d_Reader_refuse_10 p_Reader_11_9 rfl rfl (fun M41 I42 q43 K44 => ?_)
      refine mv_iconst (v := 0) d_Reader_refuse_13 (by decide) ?_
      obtain ⟨s45, e46⟩ : ∃ s9 : p_S, p_fl pb pn 1 ps = s9 := ⟨_, rfl⟩
      have h47 := q_fl e46 (by omega) (by decide)
      have h48 : (1 : Int32).toInt = s45.1 := (by have e9 : (1 : Int32).toInt = 1 := (by decide); omega)
      have h49 : Im (s45.1 ≠ 0 → v5.toInt = (s45.2.1 : Int)) := Im.i (fun _ => by have := (Im.o h17) (by omega); omega)
      have h50 : Im (s45.1 = 0 → v3.toInt = (s45.2.2 : Int) ∧ v4.toInt = p_ki pb pn s45.2.2 ∧ v5.toInt = (p_st pb pn s45.2.2 : Int) ∧ v6.toInt = (p_sp pb pn s45.2.2 : Int) ∧ v7.toInt = p_va pb pn s45.2.2 ∧ v5.toInt = -1) := Im.i (fun z9 => absurd z9 h47.2.2)
      refine mv_iret d_Reader_refuse_14 rfl (by decide) ?_
      exact mv_iret d_Reader_bar_18 rfl (by decide) ⟨_, I42, _, rfl, by decide, by decide, fun h => absurd h (by decide), (by have := (Im.o h17) (by omega); have := yC.d ps.2.2; have := yC.kn ps.2.2; have hb : s45.1 ≠ 0 := (by omega); have z1 : ∀ c, p_sg pb pn c s45 = s45 := (fun c => p_sg_Z s45 hb); have z2 : ∀ c, p_wd pb pn c s45 = s45 := (fun c => p_wd_Z s45 hb); have z3 : ∀ op, p_sum pb pn pa op s45 = s45 := (fun op => p_sum_Z s45 hb); have z4 : ∀ r oc, p_con pb pn pa r oc s45 = s45 := (fun r oc => p_con_Z s45 hb); have z5 : p_prt pb pn s45 = s45 := p_prt_Z s45 hb; have eT : p_bar pb pn pa ps = s45 := (by unfold p_bar; (try simp only [e46, z1, z2, z3, z4, z5]); ((repeat' (first | (with_reducible rfl) | split)) <;> (first | ((try simp only [e46, z1, z2, z3, z4, z5]); done) | (exfalso; omega)))); rw [eT]; exact ⟨⟨_, _, _, _, _, _, _, (K44 _ 9 1 _ rfl q39), q43, (K44 _ 9 9 _ rfl (K40 _ 9 9 _ rfl q10)), (K44 _ 9 10 _ rfl (K40 _ 9 10 _ rfl q11)), (K44 _ 9 11 _ rfl (K40 _ 9 11 _ rfl q12)), (K44 _ 9 12 _ rfl (K40 _ 9 12 _ rfl q13)), (K44 _ 9 13 _ rfl (K40 _ 9 13 _ rfl q14)), h48, Im.o h49, Im.o h50⟩, (Or.inr ⟨by first | decide | omega, by omega⟩)⟩)⟩
    · refine mv_aload_n d_Reader_valueAmong_16 rfl rfl ?_
      refine tr_getK (k := 13) q14 d_Reader_valueAmong_17 f_Reader_241_9 ?_
      refine mv_iload_n d_Reader_valueAmong_20 rfl rfl ?_
      refine mv_iload_n d_Reader_valueAmong_21 rfl rfl ?_
      refine mv_iaddv (v := 23) d_Reader_valueAmong_22 (by decide) ?_
      have := mz_hi v7
      refine mv_icmp_geZ (tgt := 35) (a := v7.toInt) (b := 23) d_Reader_valueAmong_23 (by decide) rfl (by decide) (fun b51 => ?_) (fun b51 => ?_)
      · refine mv_iconst (v := (-1)) d_Reader_valueAmong_35 (by decide) ?_
        refine mv_iret d_Reader_valueAmong_36 rfl (by first | rfl | decide) ?_
        refine mv_istore_n (lv' := [(2, .int (-1)), (0, .ref o0), (1, .ref o1)]) d_Reader_bar_7 rfl (by decide) rfl ?_
        refine mv_iload_n d_Reader_bar_8 rfl rfl ?_
        refine mv_iconst (v := (-1)) d_Reader_bar_9 (by decide) ?_
        refine mv_icmp_ne_f (tgt := 19) d_Reader_bar_10 (by decide) (by decide) ?_
        refine mv_aload_n d_Reader_bar_13 rfl rfl ?_
        refine mv_iconst (v := 1) d_Reader_bar_14 (by decide) ?_
        obtain ⟨_, b52, -⟩ := I0.1 _ _ h_o0
        refine mv_callV (kc1 := 0) (ks1 := 0) (kc' := 0) (ks' := 0) (As := [.int 1]) (st9 := [.int 1, .ref o0]) d_Reader_bar_15 lV_Reader_56 b52 rfl (mj_enter (by decide) (Nat.le_of_ble_eq_true rfl) ?_) rfl (Nat.le_of_ble_eq_true rfl) (Nat.le_of_ble_eq_true rfl) (Nat.le_of_ble_eq_true rfl) (hst := rfl) (fun _ _ _ h => h)
        refine mv_aload_n d_Reader_refuse_0 rfl rfl ?_
        refine mv_iload_n d_Reader_refuse_1 rfl rfl ?_
        refine tr_putK tm_okF I0 h_o0 (k := 1) rfl ⟨_, rfl⟩ (Or.inl (by decide)) d_Reader_refuse_2 p_Reader_70_9 rfl rfl (fun M53 I54 q55 K56 => ?_)
        refine mv_aload_n d_Reader_refuse_5 rfl rfl ?_
        refine mv_aload_n d_Reader_refuse_6 rfl rfl ?_
        refine tr_getK (k := 11) (K56 _ 9 11 _ rfl q12) d_Reader_refuse_7 f_Reader_175_9 ?_
        refine tr_putK tm_okF I54 h_o0 (k := 2) rfl ⟨_, rfl⟩ (Or.inl (by decide)) d_Reader_refuse_10 p_Reader_11_9 rfl rfl (fun M57 I58 q59 K60 => ?_)
        refine mv_iconst (v := 0) d_Reader_refuse_13 (by decide) ?_
        obtain ⟨s61, e62⟩ : ∃ s9 : p_S, p_fl pb pn 1 ps = s9 := ⟨_, rfl⟩
        have h63 := q_fl e62 (by omega) (by decide)
        have h64 : (1 : Int32).toInt = s61.1 := (by have e9 : (1 : Int32).toInt = 1 := (by decide); omega)
        have h65 : Im (s61.1 ≠ 0 → v5.toInt = (s61.2.1 : Int)) := Im.i (fun _ => by have := (Im.o h17) (by omega); omega)
        have h66 : Im (s61.1 = 0 → v3.toInt = (s61.2.2 : Int) ∧ v4.toInt = p_ki pb pn s61.2.2 ∧ v5.toInt = (p_st pb pn s61.2.2 : Int) ∧ v6.toInt = (p_sp pb pn s61.2.2 : Int) ∧ v7.toInt = p_va pb pn s61.2.2 ∧ v5.toInt = -1) := Im.i (fun z9 => absurd z9 h63.2.2)
        refine mv_iret d_Reader_refuse_14 rfl (by decide) ?_
        exact mv_iret d_Reader_bar_18 rfl (by decide) ⟨_, I58, _, rfl, by decide, by decide, fun h => absurd h (by decide), (by have := (Im.o h17) (by omega); have := yC.d ps.2.2; have := yC.kn ps.2.2; have hb : s61.1 ≠ 0 := (by omega); have z1 : ∀ c, p_sg pb pn c s61 = s61 := (fun c => p_sg_Z s61 hb); have z2 : ∀ c, p_wd pb pn c s61 = s61 := (fun c => p_wd_Z s61 hb); have z3 : ∀ op, p_sum pb pn pa op s61 = s61 := (fun op => p_sum_Z s61 hb); have z4 : ∀ r oc, p_con pb pn pa r oc s61 = s61 := (fun r oc => p_con_Z s61 hb); have z5 : p_prt pb pn s61 = s61 := p_prt_Z s61 hb; have eT : p_bar pb pn pa ps = s61 := (by unfold p_bar; (try simp only [e62, z1, z2, z3, z4, z5]); ((repeat' (first | (with_reducible rfl) | split)) <;> (first | ((try simp only [e62, z1, z2, z3, z4, z5]); done) | (exfalso; omega)))); rw [eT]; exact ⟨⟨_, _, _, _, _, _, _, (K60 _ 9 1 _ rfl q55), q59, (K60 _ 9 9 _ rfl (K56 _ 9 9 _ rfl q10)), (K60 _ 9 10 _ rfl (K56 _ 9 10 _ rfl q11)), (K60 _ 9 11 _ rfl (K56 _ 9 11 _ rfl q12)), (K60 _ 9 12 _ rfl (K56 _ 9 12 _ rfl q13)), (K60 _ 9 13 _ rfl (K56 _ 9 13 _ rfl q14)), h64, Im.o h65, Im.o h66⟩, (Or.inr ⟨by first | decide | omega, by omega⟩)⟩)⟩
      · refine mv_aload_n d_Reader_valueAmong_26 rfl rfl ?_
        refine tr_getK (k := 13) q14 d_Reader_valueAmong_27 f_Reader_241_9 ?_
        refine mv_iload_n d_Reader_valueAmong_30 rfl rfl ?_
        refine mv_isub d_Reader_valueAmong_31 ?_
        refine mv_goto (tgt := 36) d_Reader_valueAmong_32 (by decide) ?_
        refine mv_iret d_Reader_valueAmong_36 rfl (by first | rfl | decide) ?_
        refine mv_istore_n (lv' := [(2, .int (v7 - 19)), (0, .ref o0), (1, .ref o1)]) d_Reader_bar_7 rfl (by decide) rfl ?_
        refine mv_iload_n d_Reader_bar_8 rfl rfl ?_
        refine mv_iconst (v := (-1)) d_Reader_bar_9 (by decide) ?_
        have : ((v7 - 19) : Int32).toInt = v7.toInt - 19 := mz_sub2 rfl (by decide) (by omega) (by omega)
        have := mz_hi (v7 - 19)
        refine mv_icmp_neZ (tgt := 19) (a := (v7 - 19).toInt) (b := (-1)) d_Reader_bar_10 (by decide) rfl (by decide) (fun b67 => ?_) (fun b67 => ?_)
        · refine mv_aload_n d_Reader_bar_19 rfl rfl ?_
          obtain ⟨_, b74, -⟩ := I0.1 _ _ h_o0
          refine mv_callV (kc' := 3) (ks' := 451) (As := []) (st9 := [.ref o0]) d_Reader_bar_20 lV_Reader_82 b74 rfl (tc_Reader_advance_x (d := (d + 19)) (x9 := x9) (o0 := o0) h_o0 (hK I0) (qS.a (show qS M0 o0 pb pn ps from ⟨_, _, _, _, _, _, _, q8, q9, q10, q11, q12, q13, q14, h15, Im.o h16, Im.o h17⟩)) (by have := (Im.o h17) (by omega); have := yC.d ps.2.2; have := yC.kn ps.2.2; show ps.2.2 + 1 ≤ 401; omega) I0.start) rfl (Nat.le_of_ble_eq_true rfl) (Nat.le_of_ble_eq_true rfl) (Nat.le_of_ble_eq_true rfl) (hst := rfl) (fun b68r M69 n70 b68 => ?_)
          obtain ⟨T71, J72, rfl, f75⟩ := b68
          have I73 := I0.call J72 (tm_sub (by decide)) (Or.inl rfl)
          have t76 := J72.up h_o0
          have t77 := J72.up h_o1
          have q78 := J72.keep h_o0 (by decide) hO
          have q79 := J72.keep h_o0 (by decide) q8
          have q80 := J72.keep h_o0 (by decide) q9
          obtain ⟨s81, e82⟩ : ∃ s9 : p_S, p_nx ps = s9 := ⟨_, rfl⟩
          rw [e82] at f75
          have : s81.1 = 0 := by rw [← e82]; show ps.1 = 0; omega
          obtain ⟨v83, v84, v85, v86, v87, v88, v89, q90, q91, q92, q93, q94, q95, q96, h97, h98, h99⟩ := f75
          replace h98 := Im.i h98
          replace h99 := Im.i h99
          refine mv_aload_n d_Reader_bar_23 rfl rfl ?_
          refine mv_iconst (v := 0) d_Reader_bar_24 (by decide) ?_
          refine tr_putK tm_okF I73 t76 (k := 18) rfl ⟨_, rfl⟩ (Or.inl (by decide)) d_Reader_bar_25 p_Reader_118_9 rfl rfl (fun M100 I101 q102 K103 => ?_)
          refine mv_aload_n d_Reader_bar_28 rfl rfl ?_
          refine mv_bipush (v := 28) d_Reader_bar_29 (by decide) ?_
          obtain ⟨_, b110, -⟩ := I101.1 _ _ t76
          refine mv_callV (kc' := 3) (ks' := 451) (As := [.int 28]) (st9 := [.int 28, .ref o0]) d_Reader_bar_31 lV_Reader_121 b110 rfl (tc_Reader_word_x (d := (d + 18)) (x9 := x9) (o0 := o0) (x1 := 28) t76 (hK I101) ⟨_, _, _, _, _, _, _, (K103 _ 9 1 _ rfl q90), (K103 _ 9 2 _ rfl q91), (K103 _ 9 9 _ rfl q92), (K103 _ 9 10 _ rfl q93), (K103 _ 9 11 _ rfl q94), (K103 _ 9 12 _ rfl q95), (K103 _ 9 13 _ rfl q96), h97, Im.o h98, Im.o h99⟩ (by omega) (by first | omega | decide) I101.start) rfl (Nat.le_of_ble_eq_true rfl) (Nat.le_of_ble_eq_true rfl) (Nat.le_of_ble_eq_true rfl) (hst := rfl) (fun b104r M105 n106 b104 => ?_)
          obtain ⟨T107, J108, v111, rfl, b112, b113, f114, f115⟩ := b104
          have I109 := I101.call J108 (tm_sub (by decide)) (Or.inl rfl)
          have t116 := J108.up t76
          have t117 := J108.up t77
          have q118 := J108.keep t76 (by decide) (K103 _ 9 16 _ rfl q78)
          have q119 := J108.keep t76 (by decide) q102
          rw [show (28 : Int32).toInt = 28 from by decide] at f114 f115
          obtain ⟨s120, e121⟩ : ∃ s9 : p_S, p_wd pb pn 28 s81 = s9 := ⟨_, rfl⟩
          rw [e121] at f114 f115
          obtain ⟨v122, v123, v124, v125, v126, v127, v128, q129, q130, q131, q132, q133, q134, q135, h136, h137, h138⟩ := f114
          replace h137 := Im.i h137
          replace h138 := Im.i h138
          have := mz_hi v111
          refine mv_if_eqZ (tgt := 44) (a := v111.toInt) d_Reader_bar_34 (by decide) rfl (fun b139 => ?_) (fun b139 => ?_)
          · refine mv_iconst (v := 0) d_Reader_bar_44 (by decide) ?_
            exact mv_iret d_Reader_bar_45 rfl (by decide) ⟨_, I109, _, rfl, by decide, by decide, fun h => absurd h (by decide), (by have := (Im.o h17) (by omega); have := yC.d ps.2.2; have := yC.kn ps.2.2; have hb : s120.1 ≠ 0 := (by omega); have z1 : ∀ c, p_sg pb pn c s120 = s120 := (fun c => p_sg_Z s120 hb); have z2 : ∀ c, p_wd pb pn c s120 = s120 := (fun c => p_wd_Z s120 hb); have z3 : ∀ op, p_sum pb pn pa op s120 = s120 := (fun op => p_sum_Z s120 hb); have z4 : ∀ r oc, p_con pb pn pa r oc s120 = s120 := (fun r oc => p_con_Z s120 hb); have z5 : p_prt pb pn s120 = s120 := p_prt_Z s120 hb; have eT : p_bar pb pn pa ps = s120 := (by unfold p_bar; (try simp only [e82, e121, z1, z2, z3, z4, z5]); ((repeat' (first | (with_reducible rfl) | split)) <;> (first | ((try simp only [e82, e121, z1, z2, z3, z4, z5]); done) | (exfalso; omega)))); rw [eT]; exact ⟨⟨_, _, _, _, _, _, _, q129, q130, q131, q132, q133, q134, q135, h136, Im.o h137, Im.o h138⟩, (Or.inr ⟨by first | decide | omega, by omega⟩)⟩)⟩
          · refine mv_aload_n d_Reader_bar_37 rfl rfl ?_
            obtain ⟨_, b146, -⟩ := I109.1 _ _ t116
            refine mv_callV (kc' := 3) (ks' := 451) (As := []) (st9 := [.ref o0]) d_Reader_bar_38 lV_Reader_124 b146 rfl (tc_Reader_condition_q4_x (d := d) (x9 := x9) (o0 := o0) t116 (p := p) q118 (by omega) (by first | omega | decide) (hK I109) ⟨_, _, _, _, _, _, _, q129, q130, q131, q132, q133, q134, q135, h136, Im.o h137, Im.o h138⟩ (by omega) I109.start) rfl (Nat.le_of_ble_eq_true rfl) (Nat.le_of_ble_eq_true rfl) (Nat.le_of_ble_eq_true rfl) (hst := rfl) (fun b140r M141 n142 b140 => ?_)
            obtain ⟨T143, J144, v147, rfl, b148, b149, o150, f151, f152⟩ := b140
            have I145 := I109.call J144 (tm_sub (by decide)) (Or.inl rfl)
            have t153 := J144.up t116
            have t154 := J144.up t117
            obtain ⟨s155, e156⟩ : ∃ s9 : p_S, p_con pb pn pa 4 (p_oc pb pn pa 4) s120 = s9 := ⟨_, rfl⟩
            rw [e156] at f151 f152
            obtain ⟨v157, v158, v159, v160, v161, v162, v163, q164, q165, q166, q167, q168, q169, q170, h171, h172, h173⟩ := f151
            replace h172 := Im.i h172
            replace h173 := Im.i h173
            have := mz_hi v147
            refine mv_if_neZ (tgt := 46) (a := v147.toInt) d_Reader_bar_41 (by decide) rfl (fun b174 => ?_) (fun b174 => ?_)
            · have q175 := o150 (by omega)
              refine mv_aload_n d_Reader_bar_46 rfl rfl ?_
              refine mv_iload_n d_Reader_bar_47 rfl rfl ?_
              refine mv_aload_n d_Reader_bar_48 rfl rfl ?_
              obtain ⟨_, b182, -⟩ := I145.1 _ _ t153
              refine mv_callV (kc' := 1) (ks' := 50) (As := []) (st9 := [.ref o0, .int (v7 - 19), .ref o1]) d_Reader_bar_49 lV_Reader_128 b182 rfl (tc_Reader_stepsTaken (d := (d + 17)) (x9 := x9) (o0 := o0) t153 I145.start) rfl (Nat.le_of_ble_eq_true rfl) (Nat.le_of_ble_eq_true rfl) (Nat.le_of_ble_eq_true rfl) (hst := rfl) (fun b176r M177 n178 b176 => ?_)
              obtain ⟨T179, J180, a183, rfl, t_a183⟩ := b176
              have I181 := I145.call J180 (tm_sub (by decide)) (Or.inl rfl)
              have t184 := J180.up t153
              have t185 := J180.up t154
              have q186 := J180.keep (I145.up h_o0) (by decide) q164
              have q187 := J180.keep (I145.up h_o0) (by decide) q165
              have q188 := J180.keep (I145.up h_o0) (by decide) q166
              have q189 := J180.keep (I145.up h_o0) (by decide) q167
              have q190 := J180.keep (I145.up h_o0) (by decide) q168
              have q191 := J180.keep (I145.up h_o0) (by decide) q169
              have q192 := J180.keep (I145.up h_o0) (by decide) q170
              have q193 := J180.keep t153 (by decide) q175
              obtain ⟨_, b200, -⟩ := I181.1 _ _ t185
              refine mv_callV (kc' := 0) (ks' := 0) (As := [.int (v7 - 19), .ref a183]) (st9 := [.ref a183, .int (v7 - 19), .ref o1]) d_Reader_bar_52 lV_Reader_132 b200 rfl (tc_Act_addBar (d := (d + 12)) (x9 := x9) (o0 := o1) (x1 := (v7 - 19)) (o2 := a183) t185 t_a183 I181.start) rfl (Nat.le_of_ble_eq_true rfl) (Nat.le_of_ble_eq_true rfl) (Nat.le_of_ble_eq_true rfl) (hst := rfl) (fun b194r M195 n196 b194 => ?_)
              obtain ⟨T197, J198, rfl⟩ := b194
              have I199 := I181.call J198 (tm_sub (by decide)) (Or.inl rfl)
              have t201 := J198.up t184
              have t202 := J198.up t185
              have q203 := J198.keep t184 (by decide) q186
              have q204 := J198.keep t184 (by decide) q187
              have q205 := J198.keep t184 (by decide) q188
              have q206 := J198.keep t184 (by decide) q189
              have q207 := J198.keep t184 (by decide) q190
              have q208 := J198.keep t184 (by decide) q191
              have q209 := J198.keep t184 (by decide) q192
              have q210 := J198.keep t184 (by decide) q193
              refine mv_iconst (v := 1) d_Reader_bar_55 (by decide) ?_
              exact mv_iret d_Reader_bar_56 rfl (by decide) ⟨_, I199, _, rfl, by decide, by decide, fun _ => q210, (by have := (Im.o h17) (by omega); have := yC.d ps.2.2; have := yC.kn ps.2.2; have eT : p_bar pb pn pa ps = s155 := (by unfold p_bar; (try simp only [e82, e121, e156]); ((repeat' (first | (with_reducible rfl) | split)) <;> (first | ((try simp only [e82, e121, e156]); done) | (exfalso; omega)))); rw [eT]; exact ⟨⟨_, _, _, _, _, _, _, q203, q204, q205, q206, q207, q208, q209, h171, Im.o h172, Im.o h173⟩, (Or.inl ⟨by first | decide | omega, by omega⟩)⟩)⟩
            · refine mv_iconst (v := 0) d_Reader_bar_44 (by decide) ?_
              exact mv_iret d_Reader_bar_45 rfl (by decide) ⟨_, I145, _, rfl, by decide, by decide, fun h => absurd h (by decide), (by have := (Im.o h17) (by omega); have := yC.d ps.2.2; have := yC.kn ps.2.2; have hb : s155.1 ≠ 0 := (by omega); have z1 : ∀ c, p_sg pb pn c s155 = s155 := (fun c => p_sg_Z s155 hb); have z2 : ∀ c, p_wd pb pn c s155 = s155 := (fun c => p_wd_Z s155 hb); have z3 : ∀ op, p_sum pb pn pa op s155 = s155 := (fun op => p_sum_Z s155 hb); have z4 : ∀ r oc, p_con pb pn pa r oc s155 = s155 := (fun r oc => p_con_Z s155 hb); have z5 : p_prt pb pn s155 = s155 := p_prt_Z s155 hb; have eT : p_bar pb pn pa ps = s155 := (by unfold p_bar; (try simp only [e82, e121, e156, z1, z2, z3, z4, z5]); ((repeat' (first | (with_reducible rfl) | split)) <;> (first | ((try simp only [e82, e121, e156, z1, z2, z3, z4, z5]); done) | (exfalso; omega)))); rw [eT]; exact ⟨⟨_, _, _, _, _, _, _, q164, q165, q166, q167, q168, q169, q170, h171, Im.o h172, Im.o h173⟩, (Or.inr ⟨by first | decide | omega, by omega⟩)⟩)⟩
        · refine mv_aload_n d_Reader_bar_13 rfl rfl ?_
          refine mv_iconst (v := 1) d_Reader_bar_14 (by decide) ?_
          obtain ⟨_, b211, -⟩ := I0.1 _ _ h_o0
          refine mv_callV (kc1 := 0) (ks1 := 0) (kc' := 0) (ks' := 0) (As := [.int 1]) (st9 := [.int 1, .ref o0]) d_Reader_bar_15 lV_Reader_56 b211 rfl (mj_enter (by decide) (Nat.le_of_ble_eq_true rfl) ?_) rfl (Nat.le_of_ble_eq_true rfl) (Nat.le_of_ble_eq_true rfl) (Nat.le_of_ble_eq_true rfl) (hst := rfl) (fun _ _ _ h => h)
          refine mv_aload_n d_Reader_refuse_0 rfl rfl ?_
          refine mv_iload_n d_Reader_refuse_1 rfl rfl ?_
          refine tr_putK tm_okF I0 h_o0 (k := 1) rfl ⟨_, rfl⟩ (Or.inl (by decide)) d_Reader_refuse_2 p_Reader_70_9 rfl rfl (fun M212 I213 q214 K215 => ?_)
          refine mv_aload_n d_Reader_refuse_5 rfl rfl ?_
          refine mv_aload_n d_Reader_refuse_6 rfl rfl ?_
          refine tr_getK (k := 11) (K215 _ 9 11 _ rfl q12) d_Reader_refuse_7 f_Reader_175_9 ?_
          refine tr_putK tm_okF I213 h_o0 (k := 2) rfl ⟨_, rfl⟩ (Or.inl (by decide)) d_Reader_refuse_10 p_Reader_11_9 rfl rfl (fun M216 I217 q218 K219 => ?_)
          refine mv_iconst (v := 0) d_Reader_refuse_13 (by decide) ?_
          obtain ⟨s220, e221⟩ : ∃ s9 : p_S, p_fl pb pn 1 ps = s9 := ⟨_, rfl⟩
          have h222 := q_fl e221 (by omega) (by decide)
          have h223 : (1 : Int32).toInt = s220.1 := (by have e9 : (1 : Int32).toInt = 1 := (by decide); omega)
          have h224 : Im (s220.1 ≠ 0 → v5.toInt = (s220.2.1 : Int)) := Im.i (fun _ => by have := (Im.o h17) (by omega); omega)
          have h225 : Im (s220.1 = 0 → v3.toInt = (s220.2.2 : Int) ∧ v4.toInt = p_ki pb pn s220.2.2 ∧ v5.toInt = (p_st pb pn s220.2.2 : Int) ∧ v6.toInt = (p_sp pb pn s220.2.2 : Int) ∧ v7.toInt = p_va pb pn s220.2.2 ∧ v5.toInt = -1) := Im.i (fun z9 => absurd z9 h222.2.2)
          refine mv_iret d_Reader_refuse_14 rfl (by decide) ?_
          exact mv_iret d_Reader_bar_18 rfl (by decide) ⟨_, I217, _, rfl, by decide, by decide, fun h => absurd h (by decide), (by have := (Im.o h17) (by omega); have := yC.d ps.2.2; have := yC.kn ps.2.2; have hb : s220.1 ≠ 0 := (by omega); have z1 : ∀ c, p_sg pb pn c s220 = s220 := (fun c => p_sg_Z s220 hb); have z2 : ∀ c, p_wd pb pn c s220 = s220 := (fun c => p_wd_Z s220 hb); have z3 : ∀ op, p_sum pb pn pa op s220 = s220 := (fun op => p_sum_Z s220 hb); have z4 : ∀ r oc, p_con pb pn pa r oc s220 = s220 := (fun r oc => p_con_Z s220 hb); have z5 : p_prt pb pn s220 = s220 := p_prt_Z s220 hb; have eT : p_bar pb pn pa ps = s220 := (by unfold p_bar; (try simp only [e221, z1, z2, z3, z4, z5]); ((repeat' (first | (with_reducible rfl) | split)) <;> (first | ((try simp only [e221, z1, z2, z3, z4, z5]); done) | (exfalso; omega)))); rw [eT]; exact ⟨⟨_, _, _, _, _, _, _, (K219 _ 9 1 _ rfl q214), q218, (K219 _ 9 9 _ rfl (K215 _ 9 9 _ rfl q10)), (K219 _ 9 10 _ rfl (K215 _ 9 10 _ rfl q11)), (K219 _ 9 11 _ rfl (K215 _ 9 11 _ rfl q12)), (K219 _ 9 12 _ rfl (K215 _ 9 12 _ rfl q13)), (K219 _ 9 13 _ rfl (K215 _ 9 13 _ rfl q14)), h223, Im.o h224, Im.o h225⟩, (Or.inr ⟨by first | decide | omega, by omega⟩)⟩)⟩
def w_Reader_rule_q4_x : List Nat := [101, 153, 154, 901, 902, 909, 910, 911, 912, 913, 914, 916, 918, 967, 5002]
set_option maxHeartbeats 100000000 in theorem tc_Reader_rule_q4_x {g : mj_G} {l : Launch} {d : Nat} {T0 : tm_H} {M0 : mj_M} {n0 x9 : Nat} {o0 : Nat} {o1 : Nat} (h_o0 : T0 o0 = some (0, 9, 0)) (h_o1 : T0 o1 = some (0, 1, 0)) {p : Int32} (hO : tm_at M0 o0 9 16 (.int p)) (hp : 0 ≤ p.toInt)  (hp2 : p.toInt ≤ 0) {pb : Nat → Int} {pn : Nat} {pa : Int} {ps : p_S} (yC : qC M0 o0 pb pn pa) (yD : qS M0 o0 pb pn ps) (yw : ps.1 = 0) {pc9 : Nat} {cv : Int32} (yc : tm_at M0 o1 1 1 (.int cv)) (yc9 : cv.toInt = (pc9 : Int)) (I0 : tm_I tm_FT (tm_in w_Reader_rule_q4_x) x9 T0 M0 n0 T0 M0 n0) : mj_Met g l kY_Reader_rule (d + 21) [.ref o0, .ref o1] M0 n0 3 451 (tm_Q tm_FT (tm_in w_Reader_rule_q4_x) x9 T0 M0 n0 (fun r _ M => ∃ v : Int32, r = some (.int v) ∧ 0 ≤ v.toInt ∧ v.toInt ≤ 1 ∧ (v.toInt = 1 → tm_at M o0 9 16 (.int p)) ∧ (qS M o0 pb pn (p_rul pb pn pa pc9 ps)) ∧ (v.toInt = 1 ∧ (p_rul pb pn pa pc9 ps).1 = 0 ∨ v.toInt = 0 ∧ (p_rul pb pn pa pc9 ps).1 ≠ 0) ∧ (∃ c1 : Int32, tm_at M o1 1 1 (.int c1) ∧ (v.toInt = 1 → c1.toInt = (pc9 : Int) + 1)))) := by
  refine mj_enter (by decide) (Nat.le_of_ble_eq_true rfl) ?_
  have hK : ∀ {T : tm_H} {M : mj_M} {n : Nat}, tm_I tm_FT (tm_in w_Reader_rule_q4_x) x9 T0 M0 n0 T M n → qC M o0 pb pn pa := fun I => yC.keep I0.1 I h_o0 (qW_of (by decide +kernel))
  obtain ⟨v1, v2, v3, v4, v5, v6, v7, q8, q9, q10, q11, q12, q13, q14, h15, h16, h17⟩ := yD
  replace h16 := Im.i h16
  replace h17 := Im.i h17
  refine mv_aload_n d_Reader_rule_0 rfl rfl ?_
  refine mv_bipush (v := 13) d_Reader_rule_1 (by decide) ?_
  refine mv_bipush (v := 6) d_Reader_rule_3 (by decide) ?_
  obtain ⟨_, b18, -⟩ := I0.1 _ _ h_o0
  refine mv_callV (kc1 := 0) (ks1 := 0) (kc' := 3) (ks' := 451) (As := [.int 13, .int 6]) (st9 := [.int 6, .int 13, .ref o0]) d_Reader_rule_5 lV_Reader_85 b18 rfl (mj_enter (by decide) (Nat.le_of_ble_eq_true rfl) ?_) rfl (Nat.le_of_ble_eq_true rfl) (Nat.le_of_ble_eq_true rfl) (Nat.le_of_ble_eq_true rfl) (hst := rfl) (fun _ _ _ h => h)
  refine mv_aload_n d_Reader_valueAmong_0 rfl rfl ?_
  refine tr_getK (k := 10) q11 d_Reader_valueAmong_1 f_Reader_41_9 ?_
  refine mv_iconst (v := 1) d_Reader_valueAmong_4 (by decide) ?_
  have := mz_hi v4
  refine mv_icmp_neZ (tgt := 35) (a := v4.toInt) (b := 1) d_Reader_valueAmong_5 (by decide) rfl (by decide) (fun b19 => ?_) (fun b19 => ?_)
  · refine mv_iconst (v := (-1)) d_Reader_valueAmong_35 (by decide) ?_
    refine mv_iret d_Reader_valueAmong_36 rfl (by first | rfl | decide) ?_
    refine mv_istore_n (lv' := [(2, .int (-1)), (0, .ref o0), (1, .ref o1)]) d_Reader_rule_8 rfl (by decide) rfl ?_
    refine mv_aload_n d_Reader_rule_9 rfl rfl ?_
    refine mv_bipush (v := 23) d_Reader_rule_10 (by decide) ?_
    obtain ⟨_, b20, -⟩ := I0.1 _ _ h_o0
    refine mv_callV (kc1 := 0) (ks1 := 0) (kc' := 0) (ks' := 0) (As := [.int 23]) (st9 := [.int 23, .ref o0]) d_Reader_rule_12 lV_Reader_52 b20 rfl (mj_enter (by decide) (Nat.le_of_ble_eq_true rfl) ?_) rfl (Nat.le_of_ble_eq_true rfl) (Nat.le_of_ble_eq_true rfl) (Nat.le_of_ble_eq_true rfl) (hst := rfl) (fun _ _ _ h => h)
    refine mv_aload_n d_Reader_isWord_0 rfl rfl ?_
    refine tr_getK (k := 10) q11 d_Reader_isWord_1 f_Reader_41_9 ?_
    refine mv_iconst (v := 1) d_Reader_isWord_4 (by decide) ?_
    have := mz_hi v4
    refine mv_icmp_neZ (tgt := 20) (a := v4.toInt) (b := 1) d_Reader_isWord_5 (by decide) rfl (by decide) (fun b21 => ?_) (fun b21 => absurd b21 (by omega))
    refine mv_iconst (v := 0) d_Reader_isWord_20 (by decide) ?_
    refine mv_iret d_Reader_isWord_21 rfl (by decide) ?_
    refine mv_istore_n (lv' := [(3, .int 0), (2, .int (-1)), (0, .ref o0), (1, .ref o1)]) d_Reader_rule_15 rfl (by decide) rfl ?_
    refine mv_iload_n d_Reader_rule_16 rfl rfl ?_
    refine mv_iconst (v := (-1)) d_Reader_rule_17 (by decide) ?_
    refine mv_icmp_ne_f (tgt := 31) d_Reader_rule_18 (by decide) (by decide) ?_
    refine mv_iload_n d_Reader_rule_21 rfl rfl ?_
    refine mv_if_ne_f (tgt := 31) d_Reader_rule_22 (by decide) (by decide) ?_
    refine mv_aload_n d_Reader_rule_25 rfl rfl ?_
    refine mv_iconst (v := 1) d_Reader_rule_26 (by decide) ?_
    obtain ⟨_, b22, -⟩ := I0.1 _ _ h_o0
    refine mv_callV (kc1 := 0) (ks1 := 0) (kc' := 0) (ks' := 0) (As := [.int 1]) (st9 := [.int 1, .ref o0]) d_Reader_rule_27 lV_Reader_56 b22 rfl (mj_enter (by decide) (Nat.le_of_ble_eq_true rfl) ?_) rfl (Nat.le_of_ble_eq_true rfl) (Nat.le_of_ble_eq_true rfl) (Nat.le_of_ble_eq_true rfl) (hst := rfl) (fun _ _ _ h => h)
    refine mv_aload_n d_Reader_refuse_0 rfl rfl ?_
    refine mv_iload_n d_Reader_refuse_1 rfl rfl ?_
    refine tr_putK tm_okF I0 h_o0 (k := 1) rfl ⟨_, rfl⟩ (Or.inl (by decide)) d_Reader_refuse_2 p_Reader_70_9 rfl rfl (fun M23 I24 q25 K26 => ?_)
    refine mv_aload_n d_Reader_refuse_5 rfl rfl ?_
    refine mv_aload_n d_Reader_refuse_6 rfl rfl ?_
    refine tr_getK (k := 11) (K26 _ 9 11 _ rfl q12) d_Reader_refuse_7 f_Reader_175_9 ?_
    refine tr_putK tm_okF I24 h_o0 (k := 2) rfl ⟨_, rfl⟩ (Or.inl (by decide)) d_Reader_refuse_10 p_Reader_11_9 rfl rfl (fun M27 I28 q29 K30 => ?_)
    refine mv_iconst (v := 0) d_Reader_refuse_13 (by decide) ?_
    obtain ⟨s31, e32⟩ : ∃ s9 : p_S, p_fl pb pn 1 ps = s9 := ⟨_, rfl⟩
    have h33 := q_fl e32 (by omega) (by decide)
    have h34 : (1 : Int32).toInt = s31.1 := (by have e9 : (1 : Int32).toInt = 1 := (by decide); omega)
    have h35 : Im (s31.1 ≠ 0 → v5.toInt = (s31.2.1 : Int)) := Im.i (fun _ => by have := (Im.o h17) (by omega); omega)
    have h36 : Im (s31.1 = 0 → v3.toInt = (s31.2.2 : Int) ∧ v4.toInt = p_ki pb pn s31.2.2 ∧ v5.toInt = (p_st pb pn s31.2.2 : Int) ∧ v6.toInt = (p_sp pb pn s31.2.2 : Int) ∧ v7.toInt = p_va pb pn s31.2.2 ∧ v5.toInt = -1) := Im.i (fun z9 => absurd z9 h33.2.2)
    refine mv_iret d_Reader_refuse_14 rfl (by decide) ?_
    exact mv_iret d_Reader_rule_30 rfl (by decide) ⟨_, I28, _, rfl, by decide, by decide, fun h => absurd h (by decide), (by have := (Im.o h17) (by omega); have := yC.d ps.2.2; have := yC.kn ps.2.2; have hb : s31.1 ≠ 0 := (by omega); have z1 : ∀ c, p_sg pb pn c s31 = s31 := (fun c => p_sg_Z s31 hb); have z2 : ∀ c, p_wd pb pn c s31 = s31 := (fun c => p_wd_Z s31 hb); have z3 : ∀ op, p_sum pb pn pa op s31 = s31 := (fun op => p_sum_Z s31 hb); have z4 : ∀ r oc, p_con pb pn pa r oc s31 = s31 := (fun r oc => p_con_Z s31 hb); have z5 : p_prt pb pn s31 = s31 := p_prt_Z s31 hb; have eT : p_rul pb pn pa pc9 ps = s31 := (by unfold p_rul; (try simp only [e32, z1, z2, z3, z4, z5]); ((repeat' (first | (with_reducible rfl) | split)) <;> (first | ((try simp only [e32, z1, z2, z3, z4, z5]); done) | (exfalso; omega)))); rw [eT]; exact ⟨⟨_, _, _, _, _, _, _, (K30 _ 9 1 _ rfl q25), q29, (K30 _ 9 9 _ rfl (K26 _ 9 9 _ rfl q10)), (K30 _ 9 10 _ rfl (K26 _ 9 10 _ rfl q11)), (K30 _ 9 11 _ rfl (K26 _ 9 11 _ rfl q12)), (K30 _ 9 12 _ rfl (K26 _ 9 12 _ rfl q13)), (K30 _ 9 13 _ rfl (K26 _ 9 13 _ rfl q14)), h34, Im.o h35, Im.o h36⟩, (Or.inr ⟨by first | decide | omega, by omega⟩), ⟨_, (K30 _ 1 1 _ rfl (K26 _ 1 1 _ rfl yc)), fun h => absurd h (by decide)⟩⟩)⟩
  · refine mv_aload_n d_Reader_valueAmong_8 rfl rfl ?_
    refine tr_getK (k := 13) q14 d_Reader_valueAmong_9 f_Reader_241_9 ?_
    refine mv_iload_n d_Reader_valueAmong_12 rfl rfl ?_
    have := mz_hi v7
    refine mv_icmp_ltZ (tgt := 35) (a := v7.toInt) (b := 13) d_Reader_valueAmong_13 (by decide) rfl (by decide) (fun b37 => ?_) (fun b37 => ?_)
    · refine mv_iconst (v := (-1)) d_Reader_valueAmong_35 (by decide) ?_
      refine mv_iret d_Reader_valueAmong_36 rfl (by first | rfl | decide) ?_
      refine mv_istore_n (lv' := [(2, .int (-1)), (0, .ref o0), (1, .ref o1)]) d_Reader_rule_8 rfl (by decide) rfl ?_
      refine mv_aload_n d_Reader_rule_9 rfl rfl ?_
      refine mv_bipush (v := 23) d_Reader_rule_10 (by decide) ?_
      obtain ⟨_, b38, -⟩ := I0.1 _ _ h_o0
      refine mv_callV (kc1 := 0) (ks1 := 0) (kc' := 0) (ks' := 0) (As := [.int 23]) (st9 := [.int 23, .ref o0]) d_Reader_rule_12 lV_Reader_52 b38 rfl (mj_enter (by decide) (Nat.le_of_ble_eq_true rfl) ?_) rfl (Nat.le_of_ble_eq_true rfl) (Nat.le_of_ble_eq_true rfl) (Nat.le_of_ble_eq_true rfl) (hst := rfl) (fun _ _ _ h => h)
      refine mv_aload_n d_Reader_isWord_0 rfl rfl ?_
      refine tr_getK (k := 10) q11 d_Reader_isWord_1 f_Reader_41_9 ?_
      refine mv_iconst (v := 1) d_Reader_isWord_4 (by decide) ?_
      have := mz_hi v4
      refine mv_icmp_neZ (tgt := 20) (a := v4.toInt) (b := 1) d_Reader_isWord_5 (by decide) rfl (by decide) (fun b39 => absurd b39 (by omega)) (fun b39 => ?_)
      refine mv_aload_n d_Reader_isWord_8 rfl rfl ?_
      refine tr_getK (k := 13) q14 d_Reader_isWord_9 f_Reader_241_9 ?_
      refine mv_iload_n d_Reader_isWord_12 rfl rfl ?_
      have := mz_hi v7
      refine mv_icmp_neZ (tgt := 20) (a := v7.toInt) (b := 23) d_Reader_isWord_13 (by decide) rfl (by decide) (fun b40 => ?_) (fun b40 => absurd b40 (by omega))
      refine mv_iconst (v := 0) d_Reader_isWord_20 (by decide) ?_
      refine mv_iret d_Reader_isWord_21 rfl (by decide) ?_
      refine mv_istore_n (lv' := [(3, .int 0), (2, .int (-1)), (0, .ref o0), (1, .ref o1)]) d_Reader_rule_15 rfl (by decide) rfl ?_
      refine mv_iload_n d_Reader_rule_16 rfl rfl ?_
      refine mv_iconst (v := (-1)) d_Reader_rule_17 (by decide) ?_
      refine mv_icmp_ne_f (tgt := 31) d_Reader_rule_18 (by decide) (by decide) ?_
      refine mv_iload_n d_Reader_rule_21 rfl rfl ?_
      refine mv_if_ne_f (tgt := 31) d_Reader_rule_22 (by decide) (by decide) ?_
      refine mv_aload_n d_Reader_rule_25 rfl rfl ?_
      refine mv_iconst (v := 1) d_Reader_rule_26 (by decide) ?_
      obtain ⟨_, b41, -⟩ := I0.1 _ _ h_o0
      refine mv_callV (kc1 := 0) (ks1 := 0) (kc' := 0) (ks' := 0) (As := [.int 1]) (st9 := [.int 1, .ref o0]) d_Reader_rule_27 lV_Reader_56 b41 rfl (mj_enter (by decide) (Nat.le_of_ble_eq_true rfl) ?_) rfl (Nat.le_of_ble_eq_true rfl) (Nat.le_of_ble_eq_true rfl) (Nat.le_of_ble_eq_true rfl) (hst := rfl) (fun _ _ _ h => h)
      refine mv_aload_n d_Reader_refuse_0 rfl rfl ?_
      refine mv_iload_n d_Reader_refuse_1 rfl rfl ?_
      refine tr_putK tm_okF I0 h_o0 (k := 1) rfl ⟨_, rfl⟩ (Or.inl (by decide)) d_Reader_refuse_2 p_Reader_70_9 rfl rfl (fun M42 I43 q44 K45 => ?_)
      refine mv_aload_n d_Reader_refuse_5 rfl rfl ?_
      refine mv_aload_n d_Reader_refuse_6 rfl rfl ?_
      refine tr_getK (k := 11) (K45 _ 9 11 _ rfl q12) d_Reader_refuse_7 f_Reader_175_9 ?_
      refine tr_putK tm_okF I43 h_o0 (k := 2) rfl ⟨_, rfl⟩ (Or.inl (by decide)) d_Reader_refuse_10 p_Reader_11_9 rfl rfl (fun M46 I47 q48 K49 => ?_)
      refine mv_iconst (v := 0) d_Reader_refuse_13 (by decide) ?_
      obtain ⟨s50, e51⟩ : ∃ s9 : p_S, p_fl pb pn 1 ps = s9 := ⟨_, rfl⟩
      have h52 := q_fl e51 (by omega) (by decide)
      have h53 : (1 : Int32).toInt = s50.1 := (by have e9 : (1 : Int32).toInt = 1 := (by decide); omega)
      have h54 : Im (s50.1 ≠ 0 → v5.toInt = (s50.2.1 : Int)) := Im.i (fun _ => by have := (Im.o h17) (by omega); omega)
      have h55 : Im (s50.1 = 0 → v3.toInt = (s50.2.2 : Int) ∧ v4.toInt = p_ki pb pn s50.2.2 ∧ v5.toInt = (p_st pb pn s50.2.2 : Int) ∧ v6.toInt = (p_sp pb pn s50.2.2 : Int) ∧ v7.toInt = p_va pb pn s50.2.2 ∧ v5.toInt = -1) := Im.i (fun z9 => absurd z9 h52.2.2)
      refine mv_iret d_Reader_refuse_14 rfl (by decide) ?_
      exact mv_iret d_Reader_rule_30 rfl (by decide) ⟨_, I47, _, rfl, by decide, by decide, fun h => absurd h (by decide), (by have := (Im.o h17) (by omega); have := yC.d ps.2.2; have := yC.kn ps.2.2; have hb : s50.1 ≠ 0 := (by omega); have z1 : ∀ c, p_sg pb pn c s50 = s50 := (fun c => p_sg_Z s50 hb); have z2 : ∀ c, p_wd pb pn c s50 = s50 := (fun c => p_wd_Z s50 hb); have z3 : ∀ op, p_sum pb pn pa op s50 = s50 := (fun op => p_sum_Z s50 hb); have z4 : ∀ r oc, p_con pb pn pa r oc s50 = s50 := (fun r oc => p_con_Z s50 hb); have z5 : p_prt pb pn s50 = s50 := p_prt_Z s50 hb; have eT : p_rul pb pn pa pc9 ps = s50 := (by unfold p_rul; (try simp only [e51, z1, z2, z3, z4, z5]); ((repeat' (first | (with_reducible rfl) | split)) <;> (first | ((try simp only [e51, z1, z2, z3, z4, z5]); done) | (exfalso; omega)))); rw [eT]; exact ⟨⟨_, _, _, _, _, _, _, (K49 _ 9 1 _ rfl q44), q48, (K49 _ 9 9 _ rfl (K45 _ 9 9 _ rfl q10)), (K49 _ 9 10 _ rfl (K45 _ 9 10 _ rfl q11)), (K49 _ 9 11 _ rfl (K45 _ 9 11 _ rfl q12)), (K49 _ 9 12 _ rfl (K45 _ 9 12 _ rfl q13)), (K49 _ 9 13 _ rfl (K45 _ 9 13 _ rfl q14)), h53, Im.o h54, Im.o h55⟩, (Or.inr ⟨by first | decide | omega, by omega⟩), ⟨_, (K49 _ 1 1 _ rfl (K45 _ 1 1 _ rfl yc)), fun h => absurd h (by decide)⟩⟩)⟩
    · refine mv_aload_n d_Reader_valueAmong_16 rfl rfl ?_
      refine tr_getK (k := 13) q14 d_Reader_valueAmong_17 f_Reader_241_9 ?_
      refine mv_iload_n d_Reader_valueAmong_20 rfl rfl ?_
      refine mv_iload_n d_Reader_valueAmong_21 rfl rfl ?_
      refine mv_iaddv (v := 19) d_Reader_valueAmong_22 (by decide) ?_
      have := mz_hi v7
      refine mv_icmp_geZ (tgt := 35) (a := v7.toInt) (b := 19) d_Reader_valueAmong_23 (by decide) rfl (by decide) (fun b56 => ?_) (fun b56 => ?_)
      · refine mv_iconst (v := (-1)) d_Reader_valueAmong_35 (by decide) ?_
        refine mv_iret d_Reader_valueAmong_36 rfl (by first | rfl | decide) ?_
        refine mv_istore_n (lv' := [(2, .int (-1)), (0, .ref o0), (1, .ref o1)]) d_Reader_rule_8 rfl (by decide) rfl ?_
        refine mv_aload_n d_Reader_rule_9 rfl rfl ?_
        refine mv_bipush (v := 23) d_Reader_rule_10 (by decide) ?_
        obtain ⟨_, b57, -⟩ := I0.1 _ _ h_o0
        refine mv_callV (kc1 := 0) (ks1 := 0) (kc' := 3) (ks' := 451) (As := [.int 23]) (st9 := [.int 23, .ref o0]) d_Reader_rule_12 lV_Reader_52 b57 rfl (mj_enter (by decide) (Nat.le_of_ble_eq_true rfl) ?_) rfl (Nat.le_of_ble_eq_true rfl) (Nat.le_of_ble_eq_true rfl) (Nat.le_of_ble_eq_true rfl) (hst := rfl) (fun _ _ _ h => h)
        refine mv_aload_n d_Reader_isWord_0 rfl rfl ?_
        refine tr_getK (k := 10) q11 d_Reader_isWord_1 f_Reader_41_9 ?_
        refine mv_iconst (v := 1) d_Reader_isWord_4 (by decide) ?_
        have := mz_hi v4
        refine mv_icmp_neZ (tgt := 20) (a := v4.toInt) (b := 1) d_Reader_isWord_5 (by decide) rfl (by decide) (fun b58 => absurd b58 (by omega)) (fun b58 => ?_)
        refine mv_aload_n d_Reader_isWord_8 rfl rfl ?_
        refine tr_getK (k := 13) q14 d_Reader_isWord_9 f_Reader_241_9 ?_
        refine mv_iload_n d_Reader_isWord_12 rfl rfl ?_
        have := mz_hi v7
        refine mv_icmp_neZ (tgt := 20) (a := v7.toInt) (b := 23) d_Reader_isWord_13 (by decide) rfl (by decide) (fun b59 => ?_) (fun b59 => ?_)
        · refine mv_iconst (v := 0) d_Reader_isWord_20 (by decide) ?_
          refine mv_iret d_Reader_isWord_21 rfl (by decide) ?_
          refine mv_istore_n (lv' := [(3, .int 0), (2, .int (-1)), (0, .ref o0), (1, .ref o1)]) d_Reader_rule_15 rfl (by decide) rfl ?_
          refine mv_iload_n d_Reader_rule_16 rfl rfl ?_
          refine mv_iconst (v := (-1)) d_Reader_rule_17 (by decide) ?_
          refine mv_icmp_ne_f (tgt := 31) d_Reader_rule_18 (by decide) (by decide) ?_
          refine mv_iload_n d_Reader_rule_21 rfl rfl ?_
          refine mv_if_ne_f (tgt := 31) d_Reader_rule_22 (by decide) (by decide) ?_
          refine mv_aload_n d_Reader_rule_25 rfl rfl ?_
          refine mv_iconst (v := 1) d_Reader_rule_26 (by decide) ?_
          obtain ⟨_, b60, -⟩ := I0.1 _ _ h_o0
          refine mv_callV (kc1 := 0) (ks1 := 0) (kc' := 0) (ks' := 0) (As := [.int 1]) (st9 := [.int 1, .ref o0]) d_Reader_rule_27 lV_Reader_56 b60 rfl (mj_enter (by decide) (Nat.le_of_ble_eq_true rfl) ?_) rfl (Nat.le_of_ble_eq_true rfl) (Nat.le_of_ble_eq_true rfl) (Nat.le_of_ble_eq_true rfl) (hst := rfl) (fun _ _ _ h => h)
          refine mv_aload_n d_Reader_refuse_0 rfl rfl ?_
          refine mv_iload_n d_Reader_refuse_1 rfl rfl ?_
          refine tr_putK tm_okF I0 h_o0 (k := 1) rfl ⟨_, rfl⟩ (Or.inl (by decide)) d_Reader_refuse_2 p_Reader_70_9 rfl rfl (fun M61 I62 q63 K64 => ?_)
          refine mv_aload_n d_Reader_refuse_5 rfl rfl ?_
          refine mv_aload_n d_Reader_refuse_6 rfl rfl ?_
          refine tr_getK (k := 11) (K64 _ 9 11 _ rfl q12) d_Reader_refuse_7 f_Reader_175_9 ?_
          refine tr_putK tm_okF I62 h_o0 (k := 2) rfl ⟨_, rfl⟩ (Or.inl (by decide)) d_Reader_refuse_10 p_Reader_11_9 rfl rfl (fun M65 I66 q67 K68 => ?_)
          refine mv_iconst (v := 0) d_Reader_refuse_13 (by decide) ?_
          obtain ⟨s69, e70⟩ : ∃ s9 : p_S, p_fl pb pn 1 ps = s9 := ⟨_, rfl⟩
          have h71 := q_fl e70 (by omega) (by decide)
          have h72 : (1 : Int32).toInt = s69.1 := (by have e9 : (1 : Int32).toInt = 1 := (by decide); omega)
          have h73 : Im (s69.1 ≠ 0 → v5.toInt = (s69.2.1 : Int)) := Im.i (fun _ => by have := (Im.o h17) (by omega); omega)
          have h74 : Im (s69.1 = 0 → v3.toInt = (s69.2.2 : Int) ∧ v4.toInt = p_ki pb pn s69.2.2 ∧ v5.toInt = (p_st pb pn s69.2.2 : Int) ∧ v6.toInt = (p_sp pb pn s69.2.2 : Int) ∧ v7.toInt = p_va pb pn s69.2.2 ∧ v5.toInt = -1) := Im.i (fun z9 => absurd z9 h71.2.2)
          refine mv_iret d_Reader_refuse_14 rfl (by decide) ?_
          exact mv_iret d_Reader_rule_30 rfl (by decide) ⟨_, I66, _, rfl, by decide, by decide, fun h => absurd h (by decide), (by have := (Im.o h17) (by omega); have := yC.d ps.2.2; have := yC.kn ps.2.2; have hb : s69.1 ≠ 0 := (by omega); have z1 : ∀ c, p_sg pb pn c s69 = s69 := (fun c => p_sg_Z s69 hb); have z2 : ∀ c, p_wd pb pn c s69 = s69 := (fun c => p_wd_Z s69 hb); have z3 : ∀ op, p_sum pb pn pa op s69 = s69 := (fun op => p_sum_Z s69 hb); have z4 : ∀ r oc, p_con pb pn pa r oc s69 = s69 := (fun r oc => p_con_Z s69 hb); have z5 : p_prt pb pn s69 = s69 := p_prt_Z s69 hb; have eT : p_rul pb pn pa pc9 ps = s69 := (by unfold p_rul; (try simp only [e70, z1, z2, z3, z4, z5]); ((repeat' (first | (with_reducible rfl) | split)) <;> (first | ((try simp only [e70, z1, z2, z3, z4, z5]); done) | (exfalso; omega)))); rw [eT]; exact ⟨⟨_, _, _, _, _, _, _, (K68 _ 9 1 _ rfl q63), q67, (K68 _ 9 9 _ rfl (K64 _ 9 9 _ rfl q10)), (K68 _ 9 10 _ rfl (K64 _ 9 10 _ rfl q11)), (K68 _ 9 11 _ rfl (K64 _ 9 11 _ rfl q12)), (K68 _ 9 12 _ rfl (K64 _ 9 12 _ rfl q13)), (K68 _ 9 13 _ rfl (K64 _ 9 13 _ rfl q14)), h72, Im.o h73, Im.o h74⟩, (Or.inr ⟨by first | decide | omega, by omega⟩), ⟨_, (K68 _ 1 1 _ rfl (K64 _ 1 1 _ rfl yc)), fun h => absurd h (by decide)⟩⟩)⟩
        · refine mv_iconst (v := 1) d_Reader_isWord_16 (by decide) ?_
          refine mv_goto (tgt := 21) d_Reader_isWord_17 (by decide) ?_
          refine mv_iret d_Reader_isWord_21 rfl (by decide) ?_
          refine mv_istore_n (lv' := [(3, .int 1), (2, .int (-1)), (0, .ref o0), (1, .ref o1)]) d_Reader_rule_15 rfl (by decide) rfl ?_
          refine mv_iload_n d_Reader_rule_16 rfl rfl ?_
          refine mv_iconst (v := (-1)) d_Reader_rule_17 (by decide) ?_
          refine mv_icmp_ne_f (tgt := 31) d_Reader_rule_18 (by decide) (by decide) ?_
          refine mv_iload_n d_Reader_rule_21 rfl rfl ?_
          refine mv_if_ne_t (tgt := 31) d_Reader_rule_22 (by decide) (by decide) ?_
          refine mv_aload_n d_Reader_rule_31 rfl rfl ?_
          refine tr_getK (k := 1) yc d_Reader_rule_32 f_Reader_89_1 ?_
          refine mv_bipush (v := 20) d_Reader_rule_35 (by decide) ?_
          have := mz_hi cv
          refine mv_icmp_ltZ (tgt := 46) (a := cv.toInt) (b := 20) d_Reader_rule_37 (by decide) rfl (by decide) (fun b75 => ?_) (fun b75 => ?_)
          · refine mv_aload_n d_Reader_rule_46 rfl rfl ?_
            refine mv_dup d_Reader_rule_47 rfl ?_
            refine tr_getK (k := 1) yc d_Reader_rule_48 f_Reader_89_1 ?_
            refine mv_iconst (v := 1) d_Reader_rule_51 (by decide) ?_
            refine mv_iadd d_Reader_rule_52 ?_
            refine tr_putK tm_okF I0 h_o1 (k := 1) rfl ⟨_, rfl⟩ (Or.inl (by decide)) d_Reader_rule_53 p_Reader_89_1 rfl rfl (fun M76 I77 q78 K79 => ?_)
            refine mv_aload_n d_Reader_rule_56 rfl rfl ?_
            obtain ⟨_, b86, -⟩ := I77.1 _ _ h_o0
            refine mv_callV (kc' := 3) (ks' := 451) (As := []) (st9 := [.ref o0]) d_Reader_rule_57 lV_Reader_82 b86 rfl (tc_Reader_advance_x (d := (d + 20)) (x9 := x9) (o0 := o0) h_o0 (hK I77) (qS.a (show qS M76 o0 pb pn ps from ⟨_, _, _, _, _, _, _, (K79 _ 9 1 _ rfl q8), (K79 _ 9 2 _ rfl q9), (K79 _ 9 9 _ rfl q10), (K79 _ 9 10 _ rfl q11), (K79 _ 9 11 _ rfl q12), (K79 _ 9 12 _ rfl q13), (K79 _ 9 13 _ rfl q14), h15, Im.o h16, Im.o h17⟩)) (by have := (Im.o h17) (by omega); have := yC.d ps.2.2; have := yC.kn ps.2.2; show ps.2.2 + 1 ≤ 401; omega) I77.start) rfl (Nat.le_of_ble_eq_true rfl) (Nat.le_of_ble_eq_true rfl) (Nat.le_of_ble_eq_true rfl) (hst := rfl) (fun b80r M81 n82 b80 => ?_)
            obtain ⟨T83, J84, rfl, f87⟩ := b80
            have I85 := I77.call J84 (tm_sub (by decide)) (Or.inl rfl)
            have t88 := J84.up h_o0
            have t89 := J84.up h_o1
            have q90 := J84.keep h_o0 (by decide) (K79 _ 9 16 _ rfl hO)
            have q91 := J84.keep h_o0 (by decide) (K79 _ 9 1 _ rfl q8)
            have q92 := J84.keep h_o0 (by decide) (K79 _ 9 2 _ rfl q9)
            have q93 := J84.keep h_o1 (by decide) q78
            obtain ⟨s94, e95⟩ : ∃ s9 : p_S, p_nx ps = s9 := ⟨_, rfl⟩
            rw [e95] at f87
            have : s94.1 = 0 := by rw [← e95]; show ps.1 = 0; omega
            obtain ⟨v96, v97, v98, v99, v100, v101, v102, q103, q104, q105, q106, q107, q108, q109, h110, h111, h112⟩ := f87
            replace h111 := Im.i h111
            replace h112 := Im.i h112
            refine mv_iload_n d_Reader_rule_60 rfl rfl ?_
            refine mv_if_eq_f (tgt := 75) d_Reader_rule_61 (by decide) (by decide) ?_
            refine mv_aload_n d_Reader_rule_64 rfl rfl ?_
            refine mv_aload_n d_Reader_rule_65 rfl rfl ?_
            obtain ⟨_, b119, -⟩ := I85.1 _ _ t88
            refine mv_callV (kc' := 0) (ks' := 0) (As := [.ref o1]) (st9 := [.ref o1, .ref o0]) d_Reader_rule_66 lV_Reader_94 b119 rfl (tc_Reader_bar_q4_x (d := d) (x9 := x9) (o0 := o0) (o1 := o1) t88 t89 (p := p) q90 (by omega) (by first | omega | decide) (hK I85) ⟨_, _, _, _, _, _, _, q103, q104, q105, q106, q107, q108, q109, h110, Im.o h111, Im.o h112⟩ (by omega) I85.start) rfl (Nat.le_of_ble_eq_true rfl) (Nat.le_of_ble_eq_true rfl) (Nat.le_of_ble_eq_true rfl) (hst := rfl) (fun b113r M114 n115 b113 => ?_)
            obtain ⟨T116, J117, v120, rfl, b121, b122, o123, f124, f125⟩ := b113
            have I118 := I85.call J117 (tm_sub (by decide)) (Or.inl rfl)
            have t126 := J117.up t88
            have t127 := J117.up t89
            have q128 := J117.keep t89 (by decide) q93
            obtain ⟨s129, e130⟩ : ∃ s9 : p_S, p_bar pb pn pa s94 = s9 := ⟨_, rfl⟩
            rw [e130] at f124 f125
            obtain ⟨v131, v132, v133, v134, v135, v136, v137, q138, q139, q140, q141, q142, q143, q144, h145, h146, h147⟩ := f124
            replace h146 := Im.i h146
            replace h147 := Im.i h147
            have := mz_hi v120
            refine mv_if_eqZ (tgt := 97) (a := v120.toInt) d_Reader_rule_69 (by decide) rfl (fun b148 => ?_) (fun b148 => ?_)
            · refine mv_iconst (v := 0) d_Reader_rule_97 (by decide) ?_
              exact mv_iret d_Reader_rule_98 rfl (by decide) ⟨_, I118, _, rfl, by decide, by decide, fun h => absurd h (by decide), (by have := (Im.o h17) (by omega); have := yC.d ps.2.2; have := yC.kn ps.2.2; have hb : s129.1 ≠ 0 := (by omega); have z1 : ∀ c, p_sg pb pn c s129 = s129 := (fun c => p_sg_Z s129 hb); have z2 : ∀ c, p_wd pb pn c s129 = s129 := (fun c => p_wd_Z s129 hb); have z3 : ∀ op, p_sum pb pn pa op s129 = s129 := (fun op => p_sum_Z s129 hb); have z4 : ∀ r oc, p_con pb pn pa r oc s129 = s129 := (fun r oc => p_con_Z s129 hb); have z5 : p_prt pb pn s129 = s129 := p_prt_Z s129 hb; have eT : p_rul pb pn pa pc9 ps = s129 := (by unfold p_rul; (try simp only [e95, e130, z1, z2, z3, z4, z5]); ((repeat' (first | (with_reducible rfl) | split)) <;> (first | ((try simp only [e95, e130, z1, z2, z3, z4, z5]); done) | (exfalso; omega)))); rw [eT]; exact ⟨⟨_, _, _, _, _, _, _, q138, q139, q140, q141, q142, q143, q144, h145, Im.o h146, Im.o h147⟩, (Or.inr ⟨by first | decide | omega, by omega⟩), ⟨_, q128, fun _ => by have e9 : (cv + 1 : Int32).toInt = cv.toInt + 1 := mz_addn 1 1 (by decide) (by omega) (by omega); omega⟩⟩)⟩
            · have q149 := o123 (by omega)
              refine mv_goto (tgt := 84) d_Reader_rule_72 (by decide) ?_
              refine mv_aload_n d_Reader_rule_84 rfl rfl ?_
              refine mv_bipush (v := 59) d_Reader_rule_85 (by decide) ?_
              obtain ⟨_, b156, -⟩ := I118.1 _ _ t126
              refine mv_callV (kc' := 0) (ks' := 0) (As := [.int 59]) (st9 := [.int 59, .ref o0]) d_Reader_rule_87 lV_Reader_63 b156 rfl (tc_Reader_sign_x (d := (d + 19)) (x9 := x9) (o0 := o0) (x1 := 59) t126 (hK I118) ⟨_, _, _, _, _, _, _, q138, q139, q140, q141, q142, q143, q144, h145, Im.o h146, Im.o h147⟩ (by omega) (by first | omega | decide) I118.start) rfl (Nat.le_of_ble_eq_true rfl) (Nat.le_of_ble_eq_true rfl) (Nat.le_of_ble_eq_true rfl) (hst := rfl) (fun b150r M151 n152 b150 => ?_)
              obtain ⟨T153, J154, v157, rfl, b158, b159, f160, f161⟩ := b150
              have I155 := I118.call J154 (tm_sub (by decide)) (Or.inl rfl)
              have t162 := J154.up t126
              have t163 := J154.up t127
              have q164 := J154.keep t127 (by decide) q128
              have q165 := J154.keep t126 (by decide) q149
              rw [show (59 : Int32).toInt = 59 from by decide] at f160 f161
              obtain ⟨s166, e167⟩ : ∃ s9 : p_S, p_sg pb pn 59 s129 = s9 := ⟨_, rfl⟩
              rw [e167] at f160 f161
              obtain ⟨v168, v169, v170, v171, v172, v173, v174, q175, q176, q177, q178, q179, q180, q181, h182, h183, h184⟩ := f160
              replace h183 := Im.i h183
              replace h184 := Im.i h184
              have := mz_hi v157
              refine mv_if_eqZ (tgt := 97) (a := v157.toInt) d_Reader_rule_90 (by decide) rfl (fun b185 => ?_) (fun b185 => ?_)
              · refine mv_iconst (v := 0) d_Reader_rule_97 (by decide) ?_
                exact mv_iret d_Reader_rule_98 rfl (by decide) ⟨_, I155, _, rfl, by decide, by decide, fun h => absurd h (by decide), (by have := (Im.o h17) (by omega); have := yC.d ps.2.2; have := yC.kn ps.2.2; have hb : s166.1 ≠ 0 := (by omega); have z1 : ∀ c, p_sg pb pn c s166 = s166 := (fun c => p_sg_Z s166 hb); have z2 : ∀ c, p_wd pb pn c s166 = s166 := (fun c => p_wd_Z s166 hb); have z3 : ∀ op, p_sum pb pn pa op s166 = s166 := (fun op => p_sum_Z s166 hb); have z4 : ∀ r oc, p_con pb pn pa r oc s166 = s166 := (fun r oc => p_con_Z s166 hb); have z5 : p_prt pb pn s166 = s166 := p_prt_Z s166 hb; have eT : p_rul pb pn pa pc9 ps = s166 := (by unfold p_rul; (try simp only [e95, e130, e167, z1, z2, z3, z4, z5]); ((repeat' (first | (with_reducible rfl) | split)) <;> (first | ((try simp only [e95, e130, e167, z1, z2, z3, z4, z5]); done) | (exfalso; omega)))); rw [eT]; exact ⟨⟨_, _, _, _, _, _, _, q175, q176, q177, q178, q179, q180, q181, h182, Im.o h183, Im.o h184⟩, (Or.inr ⟨by first | decide | omega, by omega⟩), ⟨_, q164, fun _ => by have e9 : (cv + 1 : Int32).toInt = cv.toInt + 1 := mz_addn 1 1 (by decide) (by omega) (by omega); omega⟩⟩)⟩
              · refine mv_iconst (v := 1) d_Reader_rule_93 (by decide) ?_
                refine mv_goto (tgt := 98) d_Reader_rule_94 (by decide) ?_
                exact mv_iret d_Reader_rule_98 rfl (by decide) ⟨_, I155, _, rfl, by decide, by decide, fun _ => q165, (by have := (Im.o h17) (by omega); have := yC.d ps.2.2; have := yC.kn ps.2.2; have eT : p_rul pb pn pa pc9 ps = s166 := (by unfold p_rul; (try simp only [e95, e130, e167]); ((repeat' (first | (with_reducible rfl) | split)) <;> (first | ((try simp only [e95, e130, e167]); done) | (exfalso; omega)))); rw [eT]; exact ⟨⟨_, _, _, _, _, _, _, q175, q176, q177, q178, q179, q180, q181, h182, Im.o h183, Im.o h184⟩, (Or.inl ⟨by first | decide | omega, by omega⟩), ⟨_, q164, fun _ => by have e9 : (cv + 1 : Int32).toInt = cv.toInt + 1 := mz_addn 1 1 (by decide) (by omega) (by omega); omega⟩⟩)⟩
          · refine mv_aload_n d_Reader_rule_40 rfl rfl ?_
            refine mv_iconst (v := 4) d_Reader_rule_41 (by decide) ?_
            obtain ⟨_, b186, -⟩ := I0.1 _ _ h_o0
            refine mv_callV (kc1 := 0) (ks1 := 0) (kc' := 0) (ks' := 0) (As := [.int 4]) (st9 := [.int 4, .ref o0]) d_Reader_rule_42 lV_Reader_56 b186 rfl (mj_enter (by decide) (Nat.le_of_ble_eq_true rfl) ?_) rfl (Nat.le_of_ble_eq_true rfl) (Nat.le_of_ble_eq_true rfl) (Nat.le_of_ble_eq_true rfl) (hst := rfl) (fun _ _ _ h => h)
            refine mv_aload_n d_Reader_refuse_0 rfl rfl ?_
            refine mv_iload_n d_Reader_refuse_1 rfl rfl ?_
            refine tr_putK tm_okF I0 h_o0 (k := 1) rfl ⟨_, rfl⟩ (Or.inl (by decide)) d_Reader_refuse_2 p_Reader_70_9 rfl rfl (fun M187 I188 q189 K190 => ?_)
            refine mv_aload_n d_Reader_refuse_5 rfl rfl ?_
            refine mv_aload_n d_Reader_refuse_6 rfl rfl ?_
            refine tr_getK (k := 11) (K190 _ 9 11 _ rfl q12) d_Reader_refuse_7 f_Reader_175_9 ?_
            refine tr_putK tm_okF I188 h_o0 (k := 2) rfl ⟨_, rfl⟩ (Or.inl (by decide)) d_Reader_refuse_10 p_Reader_11_9 rfl rfl (fun M191 I192 q193 K194 => ?_)
            refine mv_iconst (v := 0) d_Reader_refuse_13 (by decide) ?_
            obtain ⟨s195, e196⟩ : ∃ s9 : p_S, p_fl pb pn 4 ps = s9 := ⟨_, rfl⟩
            have h197 := q_fl e196 (by omega) (by decide)
            have h198 : (4 : Int32).toInt = s195.1 := (by have e9 : (4 : Int32).toInt = 4 := (by decide); omega)
            have h199 : Im (s195.1 ≠ 0 → v5.toInt = (s195.2.1 : Int)) := Im.i (fun _ => by have := (Im.o h17) (by omega); omega)
            have h200 : Im (s195.1 = 0 → v3.toInt = (s195.2.2 : Int) ∧ v4.toInt = p_ki pb pn s195.2.2 ∧ v5.toInt = (p_st pb pn s195.2.2 : Int) ∧ v6.toInt = (p_sp pb pn s195.2.2 : Int) ∧ v7.toInt = p_va pb pn s195.2.2 ∧ v5.toInt = -1) := Im.i (fun z9 => absurd z9 h197.2.2)
            refine mv_iret d_Reader_refuse_14 rfl (by decide) ?_
            exact mv_iret d_Reader_rule_45 rfl (by decide) ⟨_, I192, _, rfl, by decide, by decide, fun h => absurd h (by decide), (by have := (Im.o h17) (by omega); have := yC.d ps.2.2; have := yC.kn ps.2.2; have hb : s195.1 ≠ 0 := (by omega); have z1 : ∀ c, p_sg pb pn c s195 = s195 := (fun c => p_sg_Z s195 hb); have z2 : ∀ c, p_wd pb pn c s195 = s195 := (fun c => p_wd_Z s195 hb); have z3 : ∀ op, p_sum pb pn pa op s195 = s195 := (fun op => p_sum_Z s195 hb); have z4 : ∀ r oc, p_con pb pn pa r oc s195 = s195 := (fun r oc => p_con_Z s195 hb); have z5 : p_prt pb pn s195 = s195 := p_prt_Z s195 hb; have eT : p_rul pb pn pa pc9 ps = s195 := (by unfold p_rul; (try simp only [e196, z1, z2, z3, z4, z5]); ((repeat' (first | (with_reducible rfl) | split)) <;> (first | ((try simp only [e196, z1, z2, z3, z4, z5]); done) | (exfalso; omega)))); rw [eT]; exact ⟨⟨_, _, _, _, _, _, _, (K194 _ 9 1 _ rfl q189), q193, (K194 _ 9 9 _ rfl (K190 _ 9 9 _ rfl q10)), (K194 _ 9 10 _ rfl (K190 _ 9 10 _ rfl q11)), (K194 _ 9 11 _ rfl (K190 _ 9 11 _ rfl q12)), (K194 _ 9 12 _ rfl (K190 _ 9 12 _ rfl q13)), (K194 _ 9 13 _ rfl (K190 _ 9 13 _ rfl q14)), h198, Im.o h199, Im.o h200⟩, (Or.inr ⟨by first | decide | omega, by omega⟩), ⟨_, (K194 _ 1 1 _ rfl (K190 _ 1 1 _ rfl yc)), fun h => absurd h (by decide)⟩⟩)⟩
      · refine mv_aload_n d_Reader_valueAmong_26 rfl rfl ?_
        refine tr_getK (k := 13) q14 d_Reader_valueAmong_27 f_Reader_241_9 ?_
        refine mv_iload_n d_Reader_valueAmong_30 rfl rfl ?_
        refine mv_isub d_Reader_valueAmong_31 ?_
        refine mv_goto (tgt := 36) d_Reader_valueAmong_32 (by decide) ?_
        refine mv_iret d_Reader_valueAmong_36 rfl (by first | rfl | decide) ?_
        refine mv_istore_n (lv' := [(2, .int (v7 - 13)), (0, .ref o0), (1, .ref o1)]) d_Reader_rule_8 rfl (by decide) rfl ?_
        refine mv_aload_n d_Reader_rule_9 rfl rfl ?_
        refine mv_bipush (v := 23) d_Reader_rule_10 (by decide) ?_
        obtain ⟨_, b201, -⟩ := I0.1 _ _ h_o0
        refine mv_callV (kc1 := 0) (ks1 := 0) (kc' := 0) (ks' := 0) (As := [.int 23]) (st9 := [.int 23, .ref o0]) d_Reader_rule_12 lV_Reader_52 b201 rfl (mj_enter (by decide) (Nat.le_of_ble_eq_true rfl) ?_) rfl (Nat.le_of_ble_eq_true rfl) (Nat.le_of_ble_eq_true rfl) (Nat.le_of_ble_eq_true rfl) (hst := rfl) (fun _ _ _ h => h)
        refine mv_aload_n d_Reader_isWord_0 rfl rfl ?_
        refine tr_getK (k := 10) q11 d_Reader_isWord_1 f_Reader_41_9 ?_
        refine mv_iconst (v := 1) d_Reader_isWord_4 (by decide) ?_
        have := mz_hi v4
        refine mv_icmp_neZ (tgt := 20) (a := v4.toInt) (b := 1) d_Reader_isWord_5 (by decide) rfl (by decide) (fun b202 => absurd b202 (by omega)) (fun b202 => ?_)
        refine mv_aload_n d_Reader_isWord_8 rfl rfl ?_
        refine tr_getK (k := 13) q14 d_Reader_isWord_9 f_Reader_241_9 ?_
        refine mv_iload_n d_Reader_isWord_12 rfl rfl ?_
        have := mz_hi v7
        refine mv_icmp_neZ (tgt := 20) (a := v7.toInt) (b := 23) d_Reader_isWord_13 (by decide) rfl (by decide) (fun b203 => ?_) (fun b203 => absurd b203 (by omega))
        refine mv_iconst (v := 0) d_Reader_isWord_20 (by decide) ?_
        refine mv_iret d_Reader_isWord_21 rfl (by decide) ?_
        refine mv_istore_n (lv' := [(3, .int 0), (2, .int (v7 - 13)), (0, .ref o0), (1, .ref o1)]) d_Reader_rule_15 rfl (by decide) rfl ?_
        refine mv_iload_n d_Reader_rule_16 rfl rfl ?_
        refine mv_iconst (v := (-1)) d_Reader_rule_17 (by decide) ?_
        have : ((v7 - 13) : Int32).toInt = v7.toInt - 13 := mz_sub2 rfl (by decide) (by omega) (by omega)
        have := mz_hi (v7 - 13)
        refine mv_icmp_neZ (tgt := 31) (a := (v7 - 13).toInt) (b := (-1)) d_Reader_rule_18 (by decide) rfl (by decide) (fun b204 => ?_) (fun b204 => ?_)
        · refine mv_aload_n d_Reader_rule_31 rfl rfl ?_
          refine tr_getK (k := 1) yc d_Reader_rule_32 f_Reader_89_1 ?_
          refine mv_bipush (v := 20) d_Reader_rule_35 (by decide) ?_
          have := mz_hi cv
          refine mv_icmp_ltZ (tgt := 46) (a := cv.toInt) (b := 20) d_Reader_rule_37 (by decide) rfl (by decide) (fun b205 => ?_) (fun b205 => ?_)
          · refine mv_aload_n d_Reader_rule_46 rfl rfl ?_
            refine mv_dup d_Reader_rule_47 rfl ?_
            refine tr_getK (k := 1) yc d_Reader_rule_48 f_Reader_89_1 ?_
            refine mv_iconst (v := 1) d_Reader_rule_51 (by decide) ?_
            refine mv_iadd d_Reader_rule_52 ?_
            refine tr_putK tm_okF I0 h_o1 (k := 1) rfl ⟨_, rfl⟩ (Or.inl (by decide)) d_Reader_rule_53 p_Reader_89_1 rfl rfl (fun M206 I207 q208 K209 => ?_)
            refine mv_aload_n d_Reader_rule_56 rfl rfl ?_
            obtain ⟨_, b216, -⟩ := I207.1 _ _ h_o0
            refine mv_callV (kc' := 0) (ks' := 0) (As := []) (st9 := [.ref o0]) d_Reader_rule_57 lV_Reader_82 b216 rfl (tc_Reader_advance_x (d := (d + 20)) (x9 := x9) (o0 := o0) h_o0 (hK I207) (qS.a (show qS M206 o0 pb pn ps from ⟨_, _, _, _, _, _, _, (K209 _ 9 1 _ rfl q8), (K209 _ 9 2 _ rfl q9), (K209 _ 9 9 _ rfl q10), (K209 _ 9 10 _ rfl q11), (K209 _ 9 11 _ rfl q12), (K209 _ 9 12 _ rfl q13), (K209 _ 9 13 _ rfl q14), h15, Im.o h16, Im.o h17⟩)) (by have := (Im.o h17) (by omega); have := yC.d ps.2.2; have := yC.kn ps.2.2; show ps.2.2 + 1 ≤ 401; omega) I207.start) rfl (Nat.le_of_ble_eq_true rfl) (Nat.le_of_ble_eq_true rfl) (Nat.le_of_ble_eq_true rfl) (hst := rfl) (fun b210r M211 n212 b210 => ?_)
            obtain ⟨T213, J214, rfl, f217⟩ := b210
            have I215 := I207.call J214 (tm_sub (by decide)) (Or.inl rfl)
            have t218 := J214.up h_o0
            have t219 := J214.up h_o1
            have q220 := J214.keep h_o0 (by decide) (K209 _ 9 16 _ rfl hO)
            have q221 := J214.keep h_o0 (by decide) (K209 _ 9 1 _ rfl q8)
            have q222 := J214.keep h_o0 (by decide) (K209 _ 9 2 _ rfl q9)
            have q223 := J214.keep h_o1 (by decide) q208
            obtain ⟨s224, e225⟩ : ∃ s9 : p_S, p_nx ps = s9 := ⟨_, rfl⟩
            rw [e225] at f217
            have : s224.1 = 0 := by rw [← e225]; show ps.1 = 0; omega
            obtain ⟨v226, v227, v228, v229, v230, v231, v232, q233, q234, q235, q236, q237, q238, q239, h240, h241, h242⟩ := f217
            replace h241 := Im.i h241
            replace h242 := Im.i h242
            refine mv_iload_n d_Reader_rule_60 rfl rfl ?_
            refine mv_if_eq_t (tgt := 75) d_Reader_rule_61 (by decide) (by decide) ?_
            refine mv_aload_n d_Reader_rule_75 rfl rfl ?_
            refine mv_aload_n d_Reader_rule_76 rfl rfl ?_
            refine mv_iload_n d_Reader_rule_77 rfl rfl ?_
            obtain ⟨_, b249, -⟩ := I215.1 _ _ t218
            refine mv_callV (kc' := 0) (ks' := 0) (As := [.ref o1, .int (v7 - 13)]) (st9 := [.int (v7 - 13), .ref o1, .ref o0]) d_Reader_rule_78 lV_Reader_97 b249 rfl (tc_Reader_ruleNumber_x (d := (d + 18)) (x9 := x9) (o0 := o0) (o1 := o1) (x2 := (v7 - 13)) t218 t219 (hK I215) ⟨_, _, _, _, _, _, _, q233, q234, q235, q236, q237, q238, q239, h240, Im.o h241, Im.o h242⟩ (by omega) (by first | omega | decide) I215.start) rfl (Nat.le_of_ble_eq_true rfl) (Nat.le_of_ble_eq_true rfl) (Nat.le_of_ble_eq_true rfl) (hst := rfl) (fun b243r M244 n245 b243 => ?_)
            obtain ⟨T246, J247, v250, rfl, b251, b252, f253, f254⟩ := b243
            have I248 := I215.call J247 (tm_sub (by decide)) (Or.inl rfl)
            have t255 := J247.up t218
            have t256 := J247.up t219
            have q257 := J247.keep t218 (by decide) q220
            have q258 := J247.keep t219 (by decide) q223
            have : (v7 - 13 : Int32).toInt = v7.toInt - 13 := mz_sub2 rfl (by decide) (by omega) (by omega)
            rw [show (v7 - 13).toInt + 13 = p_wi pb pn ps.2.2 from by have := (Im.o h17) (by omega); have := yC.d ps.2.2; have := yC.kn ps.2.2; omega] at f253 f254
            obtain ⟨s259, e260⟩ : ∃ s9 : p_S, p_num pb pn (p_lo (p_wi pb pn ps.2.2)) (p_hi (p_wi pb pn ps.2.2)) s224 = s9 := ⟨_, rfl⟩
            rw [e260] at f253 f254
            obtain ⟨v261, v262, v263, v264, v265, v266, v267, q268, q269, q270, q271, q272, q273, q274, h275, h276, h277⟩ := f253
            replace h276 := Im.i h276
            replace h277 := Im.i h277
            have := mz_hi v250
            refine mv_if_eqZ (tgt := 97) (a := v250.toInt) d_Reader_rule_81 (by decide) rfl (fun b278 => ?_) (fun b278 => ?_)
            · refine mv_iconst (v := 0) d_Reader_rule_97 (by decide) ?_
              exact mv_iret d_Reader_rule_98 rfl (by decide) ⟨_, I248, _, rfl, by decide, by decide, fun h => absurd h (by decide), (by have := (Im.o h17) (by omega); have := yC.d ps.2.2; have := yC.kn ps.2.2; have hb : s259.1 ≠ 0 := (by omega); have z1 : ∀ c, p_sg pb pn c s259 = s259 := (fun c => p_sg_Z s259 hb); have z2 : ∀ c, p_wd pb pn c s259 = s259 := (fun c => p_wd_Z s259 hb); have z3 : ∀ op, p_sum pb pn pa op s259 = s259 := (fun op => p_sum_Z s259 hb); have z4 : ∀ r oc, p_con pb pn pa r oc s259 = s259 := (fun r oc => p_con_Z s259 hb); have z5 : p_prt pb pn s259 = s259 := p_prt_Z s259 hb; have eT : p_rul pb pn pa pc9 ps = s259 := (by unfold p_rul; (try simp only [e225, e260, z1, z2, z3, z4, z5]); ((repeat' (first | (with_reducible rfl) | split)) <;> (first | ((try simp only [e225, e260, z1, z2, z3, z4, z5]); done) | (exfalso; omega)))); rw [eT]; exact ⟨⟨_, _, _, _, _, _, _, q268, q269, q270, q271, q272, q273, q274, h275, Im.o h276, Im.o h277⟩, (Or.inr ⟨by first | decide | omega, by omega⟩), ⟨_, q258, fun _ => by have e9 : (cv + 1 : Int32).toInt = cv.toInt + 1 := mz_addn 1 1 (by decide) (by omega) (by omega); omega⟩⟩)⟩
            · refine mv_aload_n d_Reader_rule_84 rfl rfl ?_
              refine mv_bipush (v := 59) d_Reader_rule_85 (by decide) ?_
              obtain ⟨_, b285, -⟩ := I248.1 _ _ t255
              refine mv_callV (kc' := 0) (ks' := 0) (As := [.int 59]) (st9 := [.int 59, .ref o0]) d_Reader_rule_87 lV_Reader_63 b285 rfl (tc_Reader_sign_x (d := (d + 19)) (x9 := x9) (o0 := o0) (x1 := 59) t255 (hK I248) ⟨_, _, _, _, _, _, _, q268, q269, q270, q271, q272, q273, q274, h275, Im.o h276, Im.o h277⟩ (by omega) (by first | omega | decide) I248.start) rfl (Nat.le_of_ble_eq_true rfl) (Nat.le_of_ble_eq_true rfl) (Nat.le_of_ble_eq_true rfl) (hst := rfl) (fun b279r M280 n281 b279 => ?_)
              obtain ⟨T282, J283, v286, rfl, b287, b288, f289, f290⟩ := b279
              have I284 := I248.call J283 (tm_sub (by decide)) (Or.inl rfl)
              have t291 := J283.up t255
              have t292 := J283.up t256
              have q293 := J283.keep t255 (by decide) q257
              have q294 := J283.keep t256 (by decide) q258
              rw [show (59 : Int32).toInt = 59 from by decide] at f289 f290
              obtain ⟨s295, e296⟩ : ∃ s9 : p_S, p_sg pb pn 59 s259 = s9 := ⟨_, rfl⟩
              rw [e296] at f289 f290
              obtain ⟨v297, v298, v299, v300, v301, v302, v303, q304, q305, q306, q307, q308, q309, q310, h311, h312, h313⟩ := f289
              replace h312 := Im.i h312
              replace h313 := Im.i h313
              have := mz_hi v286
              refine mv_if_eqZ (tgt := 97) (a := v286.toInt) d_Reader_rule_90 (by decide) rfl (fun b314 => ?_) (fun b314 => ?_)
              · refine mv_iconst (v := 0) d_Reader_rule_97 (by decide) ?_
                exact mv_iret d_Reader_rule_98 rfl (by decide) ⟨_, I284, _, rfl, by decide, by decide, fun h => absurd h (by decide), (by have := (Im.o h17) (by omega); have := yC.d ps.2.2; have := yC.kn ps.2.2; have hb : s295.1 ≠ 0 := (by omega); have z1 : ∀ c, p_sg pb pn c s295 = s295 := (fun c => p_sg_Z s295 hb); have z2 : ∀ c, p_wd pb pn c s295 = s295 := (fun c => p_wd_Z s295 hb); have z3 : ∀ op, p_sum pb pn pa op s295 = s295 := (fun op => p_sum_Z s295 hb); have z4 : ∀ r oc, p_con pb pn pa r oc s295 = s295 := (fun r oc => p_con_Z s295 hb); have z5 : p_prt pb pn s295 = s295 := p_prt_Z s295 hb; have eT : p_rul pb pn pa pc9 ps = s295 := (by unfold p_rul; (try simp only [e225, e260, e296, z1, z2, z3, z4, z5]); ((repeat' (first | (with_reducible rfl) | split)) <;> (first | ((try simp only [e225, e260, e296, z1, z2, z3, z4, z5]); done) | (exfalso; omega)))); rw [eT]; exact ⟨⟨_, _, _, _, _, _, _, q304, q305, q306, q307, q308, q309, q310, h311, Im.o h312, Im.o h313⟩, (Or.inr ⟨by first | decide | omega, by omega⟩), ⟨_, q294, fun _ => by have e9 : (cv + 1 : Int32).toInt = cv.toInt + 1 := mz_addn 1 1 (by decide) (by omega) (by omega); omega⟩⟩)⟩
              · refine mv_iconst (v := 1) d_Reader_rule_93 (by decide) ?_
                refine mv_goto (tgt := 98) d_Reader_rule_94 (by decide) ?_
                exact mv_iret d_Reader_rule_98 rfl (by decide) ⟨_, I284, _, rfl, by decide, by decide, fun _ => q293, (by have := (Im.o h17) (by omega); have := yC.d ps.2.2; have := yC.kn ps.2.2; have eT : p_rul pb pn pa pc9 ps = s295 := (by unfold p_rul; (try simp only [e225, e260, e296]); ((repeat' (first | (with_reducible rfl) | split)) <;> (first | ((try simp only [e225, e260, e296]); done) | (exfalso; omega)))); rw [eT]; exact ⟨⟨_, _, _, _, _, _, _, q304, q305, q306, q307, q308, q309, q310, h311, Im.o h312, Im.o h313⟩, (Or.inl ⟨by first | decide | omega, by omega⟩), ⟨_, q294, fun _ => by have e9 : (cv + 1 : Int32).toInt = cv.toInt + 1 := mz_addn 1 1 (by decide) (by omega) (by omega); omega⟩⟩)⟩
          · refine mv_aload_n d_Reader_rule_40 rfl rfl ?_
            refine mv_iconst (v := 4) d_Reader_rule_41 (by decide) ?_
            obtain ⟨_, b315, -⟩ := I0.1 _ _ h_o0
            refine mv_callV (kc1 := 0) (ks1 := 0) (kc' := 0) (ks' := 0) (As := [.int 4]) (st9 := [.int 4, .ref o0]) d_Reader_rule_42 lV_Reader_56 b315 rfl (mj_enter (by decide) (Nat.le_of_ble_eq_true rfl) ?_) rfl (Nat.le_of_ble_eq_true rfl) (Nat.le_of_ble_eq_true rfl) (Nat.le_of_ble_eq_true rfl) (hst := rfl) (fun _ _ _ h => h)
            refine mv_aload_n d_Reader_refuse_0 rfl rfl ?_
            refine mv_iload_n d_Reader_refuse_1 rfl rfl ?_
            refine tr_putK tm_okF I0 h_o0 (k := 1) rfl ⟨_, rfl⟩ (Or.inl (by decide)) d_Reader_refuse_2 p_Reader_70_9 rfl rfl (fun M316 I317 q318 K319 => ?_)
            refine mv_aload_n d_Reader_refuse_5 rfl rfl ?_
            refine mv_aload_n d_Reader_refuse_6 rfl rfl ?_
            refine tr_getK (k := 11) (K319 _ 9 11 _ rfl q12) d_Reader_refuse_7 f_Reader_175_9 ?_
            refine tr_putK tm_okF I317 h_o0 (k := 2) rfl ⟨_, rfl⟩ (Or.inl (by decide)) d_Reader_refuse_10 p_Reader_11_9 rfl rfl (fun M320 I321 q322 K323 => ?_)
            refine mv_iconst (v := 0) d_Reader_refuse_13 (by decide) ?_
            obtain ⟨s324, e325⟩ : ∃ s9 : p_S, p_fl pb pn 4 ps = s9 := ⟨_, rfl⟩
            have h326 := q_fl e325 (by omega) (by decide)
            have h327 : (4 : Int32).toInt = s324.1 := (by have e9 : (4 : Int32).toInt = 4 := (by decide); omega)
            have h328 : Im (s324.1 ≠ 0 → v5.toInt = (s324.2.1 : Int)) := Im.i (fun _ => by have := (Im.o h17) (by omega); omega)
            have h329 : Im (s324.1 = 0 → v3.toInt = (s324.2.2 : Int) ∧ v4.toInt = p_ki pb pn s324.2.2 ∧ v5.toInt = (p_st pb pn s324.2.2 : Int) ∧ v6.toInt = (p_sp pb pn s324.2.2 : Int) ∧ v7.toInt = p_va pb pn s324.2.2 ∧ v5.toInt = -1) := Im.i (fun z9 => absurd z9 h326.2.2)
            refine mv_iret d_Reader_refuse_14 rfl (by decide) ?_
            exact mv_iret d_Reader_rule_45 rfl (by decide) ⟨_, I321, _, rfl, by decide, by decide, fun h => absurd h (by decide), (by have := (Im.o h17) (by omega); have := yC.d ps.2.2; have := yC.kn ps.2.2; have hb : s324.1 ≠ 0 := (by omega); have z1 : ∀ c, p_sg pb pn c s324 = s324 := (fun c => p_sg_Z s324 hb); have z2 : ∀ c, p_wd pb pn c s324 = s324 := (fun c => p_wd_Z s324 hb); have z3 : ∀ op, p_sum pb pn pa op s324 = s324 := (fun op => p_sum_Z s324 hb); have z4 : ∀ r oc, p_con pb pn pa r oc s324 = s324 := (fun r oc => p_con_Z s324 hb); have z5 : p_prt pb pn s324 = s324 := p_prt_Z s324 hb; have eT : p_rul pb pn pa pc9 ps = s324 := (by unfold p_rul; (try simp only [e325, z1, z2, z3, z4, z5]); ((repeat' (first | (with_reducible rfl) | split)) <;> (first | ((try simp only [e325, z1, z2, z3, z4, z5]); done) | (exfalso; omega)))); rw [eT]; exact ⟨⟨_, _, _, _, _, _, _, (K323 _ 9 1 _ rfl q318), q322, (K323 _ 9 9 _ rfl (K319 _ 9 9 _ rfl q10)), (K323 _ 9 10 _ rfl (K319 _ 9 10 _ rfl q11)), (K323 _ 9 11 _ rfl (K319 _ 9 11 _ rfl q12)), (K323 _ 9 12 _ rfl (K319 _ 9 12 _ rfl q13)), (K323 _ 9 13 _ rfl (K319 _ 9 13 _ rfl q14)), h327, Im.o h328, Im.o h329⟩, (Or.inr ⟨by first | decide | omega, by omega⟩), ⟨_, (K323 _ 1 1 _ rfl (K319 _ 1 1 _ rfl yc)), fun h => absurd h (by decide)⟩⟩)⟩
        · refine mv_iload_n d_Reader_rule_21 rfl rfl ?_
          refine mv_if_ne_f (tgt := 31) d_Reader_rule_22 (by decide) (by decide) ?_
          refine mv_aload_n d_Reader_rule_25 rfl rfl ?_
          refine mv_iconst (v := 1) d_Reader_rule_26 (by decide) ?_
          obtain ⟨_, b330, -⟩ := I0.1 _ _ h_o0
          refine mv_callV (kc1 := 0) (ks1 := 0) (kc' := 0) (ks' := 0) (As := [.int 1]) (st9 := [.int 1, .ref o0]) d_Reader_rule_27 lV_Reader_56 b330 rfl (mj_enter (by decide) (Nat.le_of_ble_eq_true rfl) ?_) rfl (Nat.le_of_ble_eq_true rfl) (Nat.le_of_ble_eq_true rfl) (Nat.le_of_ble_eq_true rfl) (hst := rfl) (fun _ _ _ h => h)
          refine mv_aload_n d_Reader_refuse_0 rfl rfl ?_
          refine mv_iload_n d_Reader_refuse_1 rfl rfl ?_
          refine tr_putK tm_okF I0 h_o0 (k := 1) rfl ⟨_, rfl⟩ (Or.inl (by decide)) d_Reader_refuse_2 p_Reader_70_9 rfl rfl (fun M331 I332 q333 K334 => ?_)
          refine mv_aload_n d_Reader_refuse_5 rfl rfl ?_
          refine mv_aload_n d_Reader_refuse_6 rfl rfl ?_
          refine tr_getK (k := 11) (K334 _ 9 11 _ rfl q12) d_Reader_refuse_7 f_Reader_175_9 ?_
          refine tr_putK tm_okF I332 h_o0 (k := 2) rfl ⟨_, rfl⟩ (Or.inl (by decide)) d_Reader_refuse_10 p_Reader_11_9 rfl rfl (fun M335 I336 q337 K338 => ?_)
          refine mv_iconst (v := 0) d_Reader_refuse_13 (by decide) ?_
          obtain ⟨s339, e340⟩ : ∃ s9 : p_S, p_fl pb pn 1 ps = s9 := ⟨_, rfl⟩
          have h341 := q_fl e340 (by omega) (by decide)
          have h342 : (1 : Int32).toInt = s339.1 := (by have e9 : (1 : Int32).toInt = 1 := (by decide); omega)
          have h343 : Im (s339.1 ≠ 0 → v5.toInt = (s339.2.1 : Int)) := Im.i (fun _ => by have := (Im.o h17) (by omega); omega)
          have h344 : Im (s339.1 = 0 → v3.toInt = (s339.2.2 : Int) ∧ v4.toInt = p_ki pb pn s339.2.2 ∧ v5.toInt = (p_st pb pn s339.2.2 : Int) ∧ v6.toInt = (p_sp pb pn s339.2.2 : Int) ∧ v7.toInt = p_va pb pn s339.2.2 ∧ v5.toInt = -1) := Im.i (fun z9 => absurd z9 h341.2.2)
          refine mv_iret d_Reader_refuse_14 rfl (by decide) ?_
          exact mv_iret d_Reader_rule_30 rfl (by decide) ⟨_, I336, _, rfl, by decide, by decide, fun h => absurd h (by decide), (by have := (Im.o h17) (by omega); have := yC.d ps.2.2; have := yC.kn ps.2.2; have hb : s339.1 ≠ 0 := (by omega); have z1 : ∀ c, p_sg pb pn c s339 = s339 := (fun c => p_sg_Z s339 hb); have z2 : ∀ c, p_wd pb pn c s339 = s339 := (fun c => p_wd_Z s339 hb); have z3 : ∀ op, p_sum pb pn pa op s339 = s339 := (fun op => p_sum_Z s339 hb); have z4 : ∀ r oc, p_con pb pn pa r oc s339 = s339 := (fun r oc => p_con_Z s339 hb); have z5 : p_prt pb pn s339 = s339 := p_prt_Z s339 hb; have eT : p_rul pb pn pa pc9 ps = s339 := (by unfold p_rul; (try simp only [e340, z1, z2, z3, z4, z5]); ((repeat' (first | (with_reducible rfl) | split)) <;> (first | ((try simp only [e340, z1, z2, z3, z4, z5]); done) | (exfalso; omega)))); rw [eT]; exact ⟨⟨_, _, _, _, _, _, _, (K338 _ 9 1 _ rfl q333), q337, (K338 _ 9 9 _ rfl (K334 _ 9 9 _ rfl q10)), (K338 _ 9 10 _ rfl (K334 _ 9 10 _ rfl q11)), (K338 _ 9 11 _ rfl (K334 _ 9 11 _ rfl q12)), (K338 _ 9 12 _ rfl (K334 _ 9 12 _ rfl q13)), (K338 _ 9 13 _ rfl (K334 _ 9 13 _ rfl q14)), h342, Im.o h343, Im.o h344⟩, (Or.inr ⟨by first | decide | omega, by omega⟩), ⟨_, (K338 _ 1 1 _ rfl (K334 _ 1 1 _ rfl yc)), fun h => absurd h (by decide)⟩⟩)⟩
def w_Reader_readAct_x : List Nat := [101, 153, 154, 901, 902, 908, 909, 910, 911, 912, 913, 914, 915, 916, 918, 954, 955, 956, 957, 967, 5002]
set_option maxHeartbeats 100000000 in theorem tc_Reader_readAct_x {g : mj_G} {l : Launch} {d : Nat} {T0 : tm_H} {M0 : mj_M} {n0 x9 : Nat} {o0 : Nat} {o1 : Nat} (h_o0 : T0 o0 = some (0, 9, 0)) (h_o1 : T0 o1 = some (0, 1, 0)) {pb : Nat → Int} {pn : Nat} {cv : Int32} (yB : qB M0 o0 pb pn) (yc : tm_at M0 o1 1 1 (.int cv)) (yc9 : cv.toInt = 0) (I0 : tm_I tm_FT (tm_in w_Reader_readAct_x) x9 T0 M0 n0 T0 M0 n0) : mj_Met g l kY_Reader_readAct (d + 22) [.ref o0, .ref o1] M0 n0 66 10120 (tm_Q tm_FT (tm_in w_Reader_readAct_x) x9 T0 M0 n0 (fun r _ M => ∃ v : Int32, r = some (.int v) ∧ 0 ≤ v.toInt ∧ v.toInt ≤ 1 ∧ (∃ vf vp rc : Int32, tm_at M o0 9 1 (.int vf) ∧ tm_at M o0 9 2 (.int vp) ∧ tm_at M o1 1 1 (.int rc) ∧ vf.toInt = (p_act pb pn).2.1 ∧ ((p_act pb pn).2.1 = 0 ∧ v.toInt = 1 ∧ rc.toInt = ((p_act pb pn).1 : Int) ∧ vp.toInt = -1 ∨ (p_act pb pn).2.1 ≠ 0 ∧ v.toInt = 0 ∧ vp.toInt = ((p_act pb pn).2.2.1 : Int))))) := by
  refine mj_enter (by decide) (Nat.le_of_ble_eq_true rfl) ?_
  have hB : ∀ {T : tm_H} {M : mj_M} {n : Nat}, tm_I tm_FT (tm_in w_Reader_readAct_x) x9 T0 M0 n0 T M n → qB M o0 pb pn := fun I => yB.keep I0.1 I h_o0 (by decide +kernel) (by decide +kernel) (by decide +kernel)
  have := yB.1
  have := yB.2.1
  refine mv_aload_n d_Reader_readAct_0 rfl rfl ?_
  refine mv_bipush (v := 13) d_Reader_readAct_1 (by decide) ?_
  obtain ⟨_, b7, -⟩ := I0.1 _ _ h_o0
  refine mv_callV (kc' := 66) (ks' := 10120) (As := [.int 13]) (st9 := [.int 13, .ref o0]) d_Reader_readAct_3 lV_Reader_37 b7 rfl (tc_Reader_begin_x (d := (d + 12)) (x9 := x9) (o0 := o0) (x1 := 13) h_o0 (hB I0) (by decide) I0.start) rfl (Nat.le_of_ble_eq_true rfl) (Nat.le_of_ble_eq_true rfl) (Nat.le_of_ble_eq_true rfl) (hst := rfl) (fun b1r M2 n3 b1 => ?_)
  obtain ⟨T4, J5, rfl, f8, f9, f10⟩ := b1
  have I6 := I0.call J5 (tm_sub (by decide)) (Or.inl rfl)
  have t11 := J5.up h_o0
  have t12 := J5.up h_o1
  have q13 := J5.keep h_o1 (by decide) yc
  rw [show (13 : Int32).toInt = 13 from by decide] at f9
  obtain ⟨s14, e15⟩ : ∃ s9 : p_S, (0, 0, 0) = s9 := ⟨_, rfl⟩
  rw [e15] at f10
  have : s14.1 = 0 := by rw [← e15]
  have : s14.2.2 = 0 := by rw [← e15]
  obtain ⟨v16, v17, v18, v19, v20, v21, v22, q23, q24, q25, q26, q27, q28, q29, h30, h31, h32⟩ := f10
  replace h31 := Im.i h31
  replace h32 := Im.i h32
  have yC := f9
  refine mv_iconst (v := 0) d_Reader_readAct_6 (by decide) ?_
  refine mv_istore_n (lv' := [(2, .int 0), (0, .ref o0), (1, .ref o1)]) d_Reader_readAct_7 rfl (by decide) rfl ?_
  have L8_33 : ∀ (k : Nat) (i2_33 : Int32) (T_33 : tm_H) (M_33 : mj_M) (n_33 : Nat), tm_I tm_FT (tm_in w_Reader_readAct_x) x9 T0 M0 n0 T_33 M_33 n_33 → T_33 o0 = some (0, 9, 0) → T_33 o1 = some (0, 1, 0) → i2_33.toInt ≤ 21 → 0 ≤ i2_33.toInt → tm_at M_33 o0 9 16 (.int 0) → (∃ (c1 : Nat) (s1 : p_S) (cv : Int32), qS M_33 o0 pb pn s1 ∧ qC M_33 o0 pb pn 13 ∧ s1.1 = 0 ∧ tm_at M_33 o1 1 1 (.int cv) ∧ cv.toInt = (c1 : Int) ∧ i2_33.toInt = (c1 : Int) ∧ c1 ≤ 20 ∧ p_lp pn (p_ac1 pb pn 13) (c1, s1) = p_act pb pn) → 21 - i2_33.toInt < (k : Int) → mj_V g l kY_Reader_readAct (d + 22) 8 [(2, .int i2_33), (0, .ref o0), (1, .ref o1)] [] M_33 n_33 (k * 3) (k * 460) (tm_Q tm_FT (tm_in w_Reader_readAct_x) x9 T0 M0 n0 (fun r _ M => ∃ v : Int32, r = some (.int v) ∧ 0 ≤ v.toInt ∧ v.toInt ≤ 1 ∧ (∃ vf vp rc : Int32, tm_at M o0 9 1 (.int vf) ∧ tm_at M o0 9 2 (.int vp) ∧ tm_at M o1 1 1 (.int rc) ∧ vf.toInt = (p_act pb pn).2.1 ∧ ((p_act pb pn).2.1 = 0 ∧ v.toInt = 1 ∧ rc.toInt = ((p_act pb pn).1 : Int) ∧ vp.toInt = -1 ∨ (p_act pb pn).2.1 ≠ 0 ∧ v.toInt = 0 ∧ vp.toInt = ((p_act pb pn).2.2.1 : Int))))) := by
    intro k33
    induction k33 with
    | zero =>
      intro i2_33 T_33 M_33 n_33 I_33 h_q0_33 h_q1_33 iv0_33 iv1_33 kp0_33 kKT9_33 hk33
      have := mz_hi i2_33
      exfalso; omega
    | succ k33 ih33 =>
      intro i2_33 T_33 M_33 n_33 I_33 h_q0_33 h_q1_33 iv0_33 iv1_33 kp0_33 kKT9_33 hk33
      obtain ⟨c34, s35, c36, f37, h38, h39, q40, h41, h42, h43, e44⟩ := kKT9_33
      obtain ⟨v45, v46, v47, v48, v49, v50, v51, q52, q53, q54, q55, q56, q57, q58, h59, h60, h61⟩ := f37
      replace h60 := Im.i h60
      replace h61 := Im.i h61
      have yC := h38
      refine mv_iload_n d_Reader_readAct_8 rfl rfl ?_
      refine mv_bipush (v := 20) d_Reader_readAct_9 (by decide) ?_
      have := mz_hi i2_33
      refine mv_icmp_gtZ (tgt := 37) (a := i2_33.toInt) (b := 20) d_Reader_readAct_11 (by decide) rfl (by decide) (fun b62 => ?_) (fun b62 => ?_)
      · refine mv_iconst (v := 1) d_Reader_readAct_37 (by decide) ?_
        exact mv_iret d_Reader_readAct_38 rfl (by decide) ⟨_, I_33, _, rfl, by decide, by decide, (by have e9_ : (1 : Int32).toInt = 1 := (by decide); have hE : p_act pb pn = (c34, s35) := (by exact e44.symm.trans (p_lp_stop (show p_ac1 pb pn 13 (c34, s35) = (c34, s35) from if_neg (fun h9 => by have h8 : s35.1 = 0 := h9.1; have h7 : p_ki pb pn s35.2.2 ≠ 0 := h9.2; omega)))); have z1 : (p_act pb pn).2.1 = s35.1 := (by rw [hE]); have z2 : (p_act pb pn).1 = c34 := (by rw [hE]); have z3 : (p_act pb pn).2.2.1 = s35.2.1 := (by rw [hE]); have := (Im.o h61) (by omega); exact ⟨_, _, _, q52, q53, q40, by omega, by omega⟩)⟩
      · refine mv_aload_n d_Reader_readAct_14 rfl rfl ?_
        refine tr_getK (k := 10) q55 d_Reader_readAct_15 f_Reader_41_9 ?_
        have := mz_hi v48
        refine mv_if_eqZ (tgt := 37) (a := v48.toInt) d_Reader_readAct_18 (by decide) rfl (fun b63 => ?_) (fun b63 => ?_)
        · refine mv_iconst (v := 1) d_Reader_readAct_37 (by decide) ?_
          exact mv_iret d_Reader_readAct_38 rfl (by decide) ⟨_, I_33, _, rfl, by decide, by decide, (by have e9_ : (1 : Int32).toInt = 1 := (by decide); have hE : p_act pb pn = (c34, s35) := (by have := (Im.o h61) (by omega); have := yC.d s35.2.2; have := yC.kn s35.2.2; exact e44.symm.trans (p_lp_stop (show p_ac1 pb pn 13 (c34, s35) = (c34, s35) from if_neg (fun h9 => by have h8 : s35.1 = 0 := h9.1; have h7 : p_ki pb pn s35.2.2 ≠ 0 := h9.2; omega)))); have z1 : (p_act pb pn).2.1 = s35.1 := (by rw [hE]); have z2 : (p_act pb pn).1 = c34 := (by rw [hE]); have z3 : (p_act pb pn).2.2.1 = s35.2.1 := (by rw [hE]); have := (Im.o h61) (by omega); exact ⟨_, _, _, q52, q53, q40, by omega, by omega⟩)⟩
        · refine mv_aload_n d_Reader_readAct_21 rfl rfl ?_
          refine mv_aload_n d_Reader_readAct_22 rfl rfl ?_
          obtain ⟨_, b70, -⟩ := I_33.1 _ _ h_q0_33
          refine mv_callV (kc' := (k33 * 3 + 0)) (ks' := (k33 * 460 + 9)) (As := [.ref o1]) (st9 := [.ref o1, .ref o0]) d_Reader_readAct_23 lV_Reader_44 b70 rfl (tc_Reader_rule_q4_x (d := d) (x9 := x9) (o0 := o0) (o1 := o1) h_q0_33 h_q1_33 (p := 0) kp0_33 (by decide) (by first | omega | decide) h38 ⟨_, _, _, _, _, _, _, q52, q53, q54, q55, q56, q57, q58, h59, Im.o h60, Im.o h61⟩ (by omega) (pc9 := c34) q40 (by omega) I_33.start) rfl (by first | exact Nat.le_of_ble_eq_true rfl | omega) (by first | exact Nat.le_of_ble_eq_true rfl | omega) (by first | exact Nat.le_of_ble_eq_true rfl | omega) (hst := rfl) (fun b64r M65 n66 b64 => ?_)
          obtain ⟨T67, J68, v71, rfl, b72, b73, o74, f75, f76, f77⟩ := b64
          have I69 := I_33.call J68 (tm_sub (by decide)) (Or.inl rfl)
          have t78 := J68.up h_q0_33
          have t79 := J68.up h_q1_33
          have h80 := h38.keep I_33.1 J68 (I_33.up h_o0) (qW_of (by decide +kernel))
          obtain ⟨s81, e82⟩ : ∃ s9 : p_S, p_rul pb pn 13 c34 s35 = s9 := ⟨_, rfl⟩
          rw [e82] at f75 f76
          obtain ⟨v83, v84, v85, v86, v87, v88, v89, q90, q91, q92, q93, q94, q95, q96, h97, h98, h99⟩ := f75
          replace h98 := Im.i h98
          replace h99 := Im.i h99
          obtain ⟨c100, q101, h102⟩ := f77
          have := mz_hi v71
          refine mv_if_neZ (tgt := 31) (a := v71.toInt) d_Reader_readAct_26 (by decide) rfl (fun b103 => ?_) (fun b103 => ?_)
          · have q104 := o74 (by omega)
            refine mv_iinc (v := (i2_33 + 1)) (lv' := [(2, .int (i2_33 + 1)), (0, .ref o0), (1, .ref o1)]) d_Reader_readAct_31 rfl rfl (by decide) rfl ?_
            refine mv_goto (tgt := 8) d_Reader_readAct_34 (by decide) ?_
            have : (i2_33 + 1 : Int32).toInt = i2_33.toInt + 1 := mz_addn 1 1 (by decide) (by omega) (by omega)
            have hc9 := (p_rul_c (b := pb) (n := pn) (na := 13) (c := c34) (s := s35) (by rw [e82]; omega)).2.1
            have T105 : ∃ (c1 : Nat) (s1 : p_S) (cv : Int32), qS M65 o0 pb pn s1 ∧ qC M65 o0 pb pn 13 ∧ s1.1 = 0 ∧ tm_at M65 o1 1 1 (.int cv) ∧ cv.toInt = (c1 : Int) ∧ (i2_33 + 1).toInt = (c1 : Int) ∧ c1 ≤ 20 ∧ p_lp pn (p_ac1 pb pn 13) (c1, s1) = p_act pb pn := ⟨c34 + 1, s81, _, ⟨_, _, _, _, _, _, _, q90, q91, q92, q93, q94, q95, q96, h97, Im.o h98, Im.o h99⟩, h80, by omega, q101, by omega, by omega, by omega, (by have := (Im.o h61) (by omega); have := yC.d s35.2.2; have := yC.kn s35.2.2; have st : p_ac1 pb pn 13 (c34, s35) = (c34 + 1, s81) := (by rw [show p_ac1 pb pn 13 (c34, s35) = (c34 + 1, p_rul pb pn 13 c34 s35) from if_pos ⟨(by show s35.1 = 0; omega), (by show p_ki pb pn s35.2.2 ≠ 0; omega)⟩, e82]); rw [← st, p_P.go p_ac1_P (c34, s35)]; exact e44)⟩
            have b106 : (i2_33 + 1).toInt = i2_33.toInt + 1 := mz_addn 1 1 (by decide) (by have := mz_lo i2_33; omega) (by have := mz_hi i2_33; omega)
            exact mv_less (by omega) (by omega) (ih33 (i2_33 + 1) T67 M65 n66 I69 t78 t79 (by first | omega | decide) (by first | omega | decide) q104 T105 (by omega))
          · refine mv_iconst (v := 0) d_Reader_readAct_29 (by decide) ?_
            exact mv_iret d_Reader_readAct_30 rfl (by decide) ⟨_, I69, _, rfl, by decide, by decide, (by have e9_ : (0 : Int32).toInt = 0 := (by decide); have hE : p_act pb pn = ((c34 + 1), s81) := (by have := (Im.o h61) (by omega); have := yC.d s35.2.2; have := yC.kn s35.2.2; have hb : s81.1 ≠ 0 := (by omega); have st : p_ac1 pb pn 13 (c34, s35) = (c34 + 1, s81) := (by rw [show p_ac1 pb pn 13 (c34, s35) = (c34 + 1, p_rul pb pn 13 c34 s35) from if_pos ⟨(by show s35.1 = 0; omega), (by show p_ki pb pn s35.2.2 ≠ 0; omega)⟩, e82]); rw [← e44, ← p_P.go p_ac1_P (c34, s35), st]; exact p_lp_stop (if_neg (fun h9 => hb h9.1))); have z1 : (p_act pb pn).2.1 = s81.1 := (by rw [hE]); have z2 : (p_act pb pn).1 = (c34 + 1) := (by rw [hE]); have z3 : (p_act pb pn).2.2.1 = s81.2.1 := (by rw [hE]); have := (Im.o h98) (by omega); exact ⟨_, _, _, q90, q91, q101, by omega, by omega⟩)⟩
  have e0 : (0 : Int32).toInt = 0 := by decide
  have T107 : ∃ (c1 : Nat) (s1 : p_S) (cv : Int32), qS M2 o0 pb pn s1 ∧ qC M2 o0 pb pn 13 ∧ s1.1 = 0 ∧ tm_at M2 o1 1 1 (.int cv) ∧ cv.toInt = (c1 : Int) ∧ 0 = (c1 : Int) ∧ c1 ≤ 20 ∧ p_lp pn (p_ac1 pb pn 13) (c1, s1) = p_act pb pn := ⟨0, s14, _, ⟨_, _, _, _, _, _, _, q23, q24, q25, q26, q27, q28, q29, h30, Im.o h31, Im.o h32⟩, f9, by omega, q13, by omega, by omega, by omega, by rw [← e15]; rfl⟩
  exact mv_less (Nat.le_of_ble_eq_true rfl) (Nat.le_of_ble_eq_true rfl) (L8_33 22 0 T4 M2 n3 I6 t11 t12 (by first | omega | decide) (by first | omega | decide) f8 T107 (by show (21 - (0 : Int) : Int) < _; decide))
