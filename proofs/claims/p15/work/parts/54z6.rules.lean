def w_Reader_bar_q4_x : List Nat := [154, 901, 902, 909, 910, 911, 912, 913, 914, 916, 918, 967, 5002]
set_option maxHeartbeats 100000000 in theorem tc_Reader_bar_q4_x {g : mj_G} {l : Launch} {d : Nat} {T0 : tm_H} {M0 : mj_M} {n0 x9 : Nat} {o0 : Nat} {o1 : Nat} (h_o0 : T0 o0 = some (0, 9, 0)) (h_o1 : T0 o1 = some (0, 1, 0)) {p : Int32} (hO : tm_at M0 o0 9 16 (.int p)) (hp : 0 ≤ p.toInt)  (hp2 : p.toInt ≤ 0) {pb : Nat → Int} {pn : Nat} {pa : Int} {ps : p_S} (yC : qC M0 o0 pb pn pa) (yD : qS M0 o0 pb pn ps) (yw : ps.1 = 0) (I0 : tm_I tm_FT (tm_in w_Reader_bar_q4_x) x9 T0 M0 n0 T0 M0 n0) : mj_Met g l kY_Reader_bar (d + 20) [.ref o0, .ref o1] M0 n0 3 451 (tm_Q tm_FT (tm_in w_Reader_bar_q4_x) x9 T0 M0 n0 (fun r _ M => ∃ v : Int32, r = some (.int v) ∧ 0 ≤ v.toInt ∧ v.toInt ≤ 1 ∧ (v.toInt = 1 → tm_at M o0 9 16 (.int p)) ∧ (qS M o0 pb pn (p_bar pb pn pa ps)) ∧ (v.toInt = 1 ∧ (p_bar pb pn pa ps).1 = 0 ∨ v.toInt = 0 ∧ (p_bar pb pn pa ps).1 ≠ 0))) := by
  refine mj_enter (by decide) (Nat.le_of_ble_eq_true rfl) ?_
  have hK : ∀ {T : tm_H} {M : mj_M} {n : Nat}, tm_I tm_FT (tm_in w_Reader_bar_q4_x) x9 T0 M0 n0 T M n → qC M o0 pb pn pa := fun I => yC.keep I0.1 I h_o0 (qW_of (by decide +kernel))
  obtain ⟨v1, v2, v3, v4, v5, v6, v7, q8, q9, q10, q11, q12, q13, q14, h15, h16, h17⟩ := yD
  replace h16 := Im.i h16
  replace h17 := Im.i h17
  refine mv_aload_n d_Reader_bar_0 rfl rfl ?_
  refine mv_bipush (v := 19) d_Reader_bar_1 (by decide) ?_
  refine mv_iconst (v := 4) d_Reader_bar_3 (by decide) ?_
  obtain ⟨_, b18, -⟩ := I0.1 _ _ h_o0
  refine mv_callV (kc1 := 0) (ks1 := 0) (kc' := 3) (ks' := 451) (As := [.int 19, .int 4]) (st9 := [.int 4, .int 19, .ref o0]) d_Reader_bar_4 lV_Reader_85 b18 rfl (mj_enter (by decide) (Nat.le_of_ble_eq_true rfl) ?_) rfl (Nat.le_of_ble_eq_true rfl) (Nat.le_of_ble_eq_true rfl) (Nat.le_of_ble_eq_true rfl) (hst := rfl) (fun _ _ _ h => h)
  refine mv_aload_n d_Reader_valueAmong_0 rfl rfl ?_
  refine tr_getK (k := 10) q11 d_Reader_valueAmong_1 f_Reader_41_9 ?_
  refine mv_iconst (v := 1) d_Reader_valueAmong_4 (by decide) ?_
  have := mz_hi v4
  refine mv_icmp_neZ (tgt := 35) (a := v4.toInt) (b := 1) d_Reader_valueAmong_5 (by decide) rfl (by decide) (fun b19 => ?_) (fun b19 => ?_)
  · refine mv_iconst (v := (-1)) d_Reader_valueAmong_35 (by decide) ?_
    refine mv_iret d_Reader_valueAmong_36 rfl (by first | rfl | decide) ?_
    refine mv_istore_n (lv' := [(2, .int (-1)), (0, .ref o0), (1, .ref o1)]) d_Reader_bar_7 rfl (by decide) rfl ?_
    refine mv_iload_n d_Reader_bar_8 rfl rfl ?_
    refine mv_iconst (v := (-1)) d_Reader_bar_9 (by decide) ?_
    refine mv_icmp_ne_f (tgt := 19) d_Reader_bar_10 (by decide) (by decide) ?_
    refine mv_aload_n d_Reader_bar_13 rfl rfl ?_
    refine mv_iconst (v := 1) d_Reader_bar_14 (by decide) ?_
    obtain ⟨_, b20, -⟩ := I0.1 _ _ h_o0
    refine mv_callV (kc1 := 0) (ks1 := 0) (kc' := 0) (ks' := 0) (As := [.int 1]) (st9 := [.int 1, .ref o0]) d_Reader_bar_15 lV_Reader_56 b20 rfl (mj_enter (by decide) (Nat.le_of_ble_eq_true rfl) ?_) rfl (Nat.le_of_ble_eq_true rfl) (Nat.le_of_ble_eq_true rfl) (Nat.le_of_ble_eq_true rfl) (hst := rfl) (fun _ _ _ h => h)
    refine mv_aload_n d_Reader_refuse_0 rfl rfl ?_
    refine mv_iload_n d_Reader_refuse_1 rfl rfl ?_
    refine tr_putK tm_okF I0 h_o0 (k := 1) rfl ⟨_, rfl⟩ (Or.inl (by decide)) d_Reader_refuse_2 p_Reader_70_9 rfl rfl (fun M21 I22 q23 K24 => ?_)
    refine mv_aload_n d_Reader_refuse_5 rfl rfl ?_
    refine mv_aload_n d_Reader_refuse_6 rfl rfl ?_
    refine tr_getK (k := 11) (K24 _ 9 11 _ rfl q12) d_Reader_refuse_7 f_Reader_175_9 ?_
    refine tr_putK tm_okF I22 h_o0 (k := 2) rfl ⟨_, rfl⟩ (Or.inl (by decide)) d_Reader_refuse_10 p_Reader_11_9 rfl rfl (fun M25 I26 q27 K28 => ?_)
    refine mv_iconst (v := 0) d_Reader_refuse_13 (by decide) ?_
    obtain ⟨s29, e30⟩ : ∃ s9 : p_S, p_fl pb pn 1 ps = s9 := ⟨_, rfl⟩
    have h31 := q_fl e30 (by omega) (by decide)
    have h32 : (1 : Int32).toInt = s29.1 := (by have e9 : (1 : Int32).toInt = 1 := (by decide); omega)
    have h33 : Im (s29.1 ≠ 0 → v5.toInt = (s29.2.1 : Int)) := Im.i (fun _ => by have := (Im.o h17) (by omega); omega)
    have h34 : Im (s29.1 = 0 → v3.toInt = (s29.2.2 : Int) ∧ v4.toInt = p_ki pb pn s29.2.2 ∧ v5.toInt = (p_st pb pn s29.2.2 : Int) ∧ v6.toInt = (p_sp pb pn s29.2.2 : Int) ∧ v7.toInt = p_va pb pn s29.2.2 ∧ v5.toInt = -1) := Im.i (fun z9 => absurd z9 h31.2.2)
    refine mv_iret d_Reader_refuse_14 rfl (by decide) ?_
    exact mv_iret d_Reader_bar_18 rfl (by decide) ⟨_, I26, _, rfl, by decide, by decide, fun h => absurd h (by decide), (by have := (Im.o h17) (by omega); have := yC.d ps.2.2; have := yC.kn ps.2.2; have hb : s29.1 ≠ 0 := (by omega); have z1 : ∀ c, p_sg pb pn c s29 = s29 := (fun c => p_sg_Z s29 hb); have z2 : ∀ c, p_wd pb pn c s29 = s29 := (fun c => p_wd_Z s29 hb); have z3 : ∀ op, p_sum pb pn pa op s29 = s29 := (fun op => p_sum_Z s29 hb); have z4 : ∀ r oc, p_con pb pn pa r oc s29 = s29 := (fun r oc => p_con_Z s29 hb); have z5 : p_prt pb pn s29 = s29 := p_prt_Z s29 hb; have eT : p_bar pb pn pa ps = s29 := (by unfold p_bar; (try simp only [e30, z1, z2, z3, z4, z5]); ((repeat' (first | (with_reducible rfl) | split)) <;> (first | ((try simp only [e30, z1, z2, z3, z4, z5]); done) | (exfalso; omega)))); rw [eT]; exact ⟨⟨_, _, _, _, _, _, _, (K28 _ 9 1 _ rfl q23), q27, (K28 _ 9 9 _ rfl (K24 _ 9 9 _ rfl q10)), (K28 _ 9 10 _ rfl (K24 _ 9 10 _ rfl q11)), (K28 _ 9 11 _ rfl (K24 _ 9 11 _ rfl q12)), (K28 _ 9 12 _ rfl (K24 _ 9 12 _ rfl q13)), (K28 _ 9 13 _ rfl (K24 _ 9 13 _ rfl q14)), h32, Im.o h33, Im.o h34⟩, (Or.inr ⟨by first | decide | omega, by omega⟩)⟩)⟩
  · refine mv_aload_n d_Reader_valueAmong_8 rfl rfl ?_
    refine tr_getK (k := 13) q14 d_Reader_valueAmong_9 f_Reader_241_9 ?_
    refine mv_iload_n d_Reader_valueAmong_12 rfl rfl ?_
    have := mz_hi v7
    refine mv_icmp_ltZ (tgt := 35) (a := v7.toInt) (b := 19) d_Reader_valueAmong_13 (by decide) rfl (by decide) (fun b35 => ?_) (fun b35 => ?_)
    · refine mv_iconst (v := (-1)) d_Reader_valueAmong_35 (by decide) ?_
      refine mv_iret d_Reader_valueAmong_36 rfl (by first | rfl | decide) ?_
      refine mv_istore_n (lv' := [(2, .int (-1)), (0, .ref o0), (1, .ref o1)]) d_Reader_bar_7 rfl (by decide) rfl ?_
      refine mv_iload_n d_Reader_bar_8 rfl rfl ?_
      refine mv_iconst (v := (-1)) d_Reader_bar_9 (by decide) ?_
      refine mv_icmp_ne_f (tgt := 19) d_Reader_bar_10 (by decide) (by decide) ?_
      refine mv_aload_n d_Reader_bar_13 rfl rfl ?_
      refine mv_iconst (v := 1) d_Reader_bar_14 (by decide) ?_
      obtain ⟨_, b36, -⟩ := I0.1 _ _ h_o0
      refine mv_callV (kc1 := 0) (ks1 := 0) (kc' := 0) (ks' := 0) (As := [.int 1]) (st9 := [.int 1, .ref o0]) d_Reader_bar_15 lV_Reader_56 b36 rfl (mj_enter (by decide) (Nat.le_of_ble_eq_true rfl) ?_) rfl (Nat.le_of_ble_eq_true rfl) (Nat.le_of_ble_eq_true rfl) (Nat.le_of_ble_eq_true rfl) (hst := rfl) (fun _ _ _ h => h)
      refine mv_aload_n d_Reader_refuse_0 rfl rfl ?_
      refine mv_iload_n d_Reader_refuse_1 rfl rfl ?_
      refine tr_putK tm_okF I0 h_o0 (k := 1) rfl ⟨_, rfl⟩ (Or.inl (by decide)) d_Reader_refuse_2 p_Reader_70_9 rfl rfl (fun M37 I38 q39 K40 => ?_)
      refine mv_aload_n d_Reader_refuse_5 rfl rfl ?_
      refine mv_aload_n d_Reader_refuse_6 rfl rfl ?_
      refine tr_getK (k := 11) (K40 _ 9 11 _ rfl q12) d_Reader_refuse_7 f_Reader_175_9 ?_
      refine tr_putK tm_okF I38 h_o0 (k := 2) rfl ⟨_, rfl⟩ (Or.inl (by decide)) d_Reader_refuse_10 p_Reader_11_9 rfl rfl (fun M41 I42 q43 K44 => ?_)
      refine mv_iconst (v := 0) d_Reader_refuse_13 (by decide) ?_
      obtain ⟨s45, e46⟩ : ∃ s9 : p_S, p_fl pb pn 1 ps = s9 := ⟨_, rfl⟩
      have h47 := q_fl e46 (by omega) (by decide)
      have h48 : (1 : Int32).toInt = s45.1 := (by have e9 : (1 : Int32).toInt = 1 := (by decide); omega)
      have h49 : Im (s45.1 ≠ 0 → v5.toInt = (s45.2.1 : Int)) := Im.i (fun _ => by have := (Im.o h17) (by omega); omega)
      have h50 : Im (s45.1 = 0 → v3.toInt = (s45.2.2 : Int) ∧ v4.toInt = p_ki pb pn s45.2.2 ∧ v5.toInt = (p_st pb pn s45.2.2 : Int) ∧ v6.toInt = (p_sp pb pn s45.2.2 : Int) ∧ v7.toInt = p_va pb pn s45.2.2 ∧ v5.toInt = -1) := Im.i (fun z9 => absurd z9 h47.2.2)
      refine mv_iret d_Reader_refuse_14 rfl (by decide) ?_
      exact mv_iret d_Reader_bar_18 rfl (by decide) ⟨_, I42, _, rfl, by decide, by decide, fun h => absurd h (by decide), (by have := (Im.o h17) (by omega); have := yC.d ps.2.2; have := yC.kn ps.2.2; have hb : s45.1 ≠ 0 := (by omega); have z1 : ∀ c, p_sg pb pn c s45 = s45 := (fun c => p_sg_Z s45 hb); have z2 : ∀ c, p_wd pb pn c s45 = s45 := (fun c => p_wd_Z s45 hb); have z3 : ∀ op, p_sum pb pn pa op s45 = s45 := (fun op => p_sum_Z s45 hb); have z4 : ∀ r oc, p_con pb pn pa r oc s45 = s45 := (fun r oc => p_con_Z s45 hb); have z5 : p_prt pb pn s45 = s45 := p_prt_Z s45 hb; have eT : p_bar pb pn pa ps = s45 := (by unfold p_bar; (try simp only [e46, z1, z2, z3, z4, z5]); ((repeat' (first | (with_reducible rfl) | split)) <;> (first | ((try simp only [e46, z1, z2, z3, z4, z5]); done) | (exfalso; omega)))); rw [eT]; exact ⟨⟨_, _, _, _, _, _, _, (K44 _ 9 1 _ rfl q39), q43, (K44 _ 9 9 _ rfl (K40 _ 9 9 _ rfl q10)), (K44 _ 9 10 _ rfl (K40 _ 9 10 _ rfl q11)), (K44 _ 9 11 _ rfl (K40 _ 9 11 _ rfl q12)), (K44 _ 9 12 _ rfl (K40 _ 9 12 _ rfl q13)), (K44 _ 9 13 _ rfl (K40 _ 9 13 _ rfl q14)), h48, Im.o h49, Im.o h50⟩, (Or.inr ⟨by first | decide | omega, by omega⟩)⟩)⟩
    · refine mv_aload_n d_Reader_valueAmong_16 rfl rfl ?_
      refine tr_getK (k := 13) q14 d_Reader_valueAmong_17 f_Reader_241_9 ?_
      refine mv_iload_n d_Reader_valueAmong_20 rfl rfl ?_
      refine mv_iload_n d_Reader_valueAmong_21 rfl rfl ?_
      refine mv_iaddv (v := 23) d_Reader_valueAmong_22 (by decide) ?_
      have := mz_hi v7
      refine mv_icmp_geZ (tgt := 35) (a := v7.toInt) (b := 23) d_Reader_valueAmong_23 (by decide) rfl (by decide) (fun b51 => ?_) (fun b51 => ?_)
      · refine mv_iconst (v := (-1)) d_Reader_valueAmong_35 (by decide) ?_
        refine mv_iret d_Reader_valueAmong_36 rfl (by first | rfl | decide) ?_
        refine mv_istore_n (lv' := [(2, .int (-1)), (0, .ref o0), (1, .ref o1)]) d_Reader_bar_7 rfl (by decide) rfl ?_
        refine mv_iload_n d_Reader_bar_8 rfl rfl ?_
        refine mv_iconst (v := (-1)) d_Reader_bar_9 (by decide) ?_
        refine mv_icmp_ne_f (tgt := 19) d_Reader_bar_10 (by decide) (by decide) ?_
        refine mv_aload_n d_Reader_bar_13 rfl rfl ?_
        refine mv_iconst (v := 1) d_Reader_bar_14 (by decide) ?_
        obtain ⟨_, b52, -⟩ := I0.1 _ _ h_o0
        refine mv_callV (kc1 := 0) (ks1 := 0) (kc' := 0) (ks' := 0) (As := [.int 1]) (st9 := [.int 1, .ref o0]) d_Reader_bar_15 lV_Reader_56 b52 rfl (mj_enter (by decide) (Nat.le_of_ble_eq_true rfl) ?_) rfl (Nat.le_of_ble_eq_true rfl) (Nat.le_of_ble_eq_true rfl) (Nat.le_of_ble_eq_true rfl) (hst := rfl) (fun _ _ _ h => h)
        refine mv_aload_n d_Reader_refuse_0 rfl rfl ?_
        refine mv_iload_n d_Reader_refuse_1 rfl rfl ?_
        refine tr_putK tm_okF I0 h_o0 (k := 1) rfl ⟨_, rfl⟩ (Or.inl (by decide)) d_Reader_refuse_2 p_Reader_70_9 rfl rfl (fun M53 I54 q55 K56 => ?_)
        refine mv_aload_n d_Reader_refuse_5 rfl rfl ?_
        refine mv_aload_n d_Reader_refuse_6 rfl rfl ?_
        refine tr_getK (k := 11) (K56 _ 9 11 _ rfl q12) d_Reader_refuse_7 f_Reader_175_9 ?_
        refine tr_putK tm_okF I54 h_o0 (k := 2) rfl ⟨_, rfl⟩ (Or.inl (by decide)) d_Reader_refuse_10 p_Reader_11_9 rfl rfl (fun M57 I58 q59 K60 => ?_)
        refine mv_iconst (v := 0) d_Reader_refuse_13 (by decide) ?_
        obtain ⟨s61, e62⟩ : ∃ s9 : p_S, p_fl pb pn 1 ps = s9 := ⟨_, rfl⟩
        have h63 := q_fl e62 (by omega) (by decide)
        have h64 : (1 : Int32).toInt = s61.1 := (by have e9 : (1 : Int32).toInt = 1 := (by decide); omega)
        have h65 : Im (s61.1 ≠ 0 → v5.toInt = (s61.2.1 : Int)) := Im.i (fun _ => by have := (Im.o h17) (by omega); omega)
        have h66 : Im (s61.1 = 0 → v3.toInt = (s61.2.2 : Int) ∧ v4.toInt = p_ki pb pn s61.2.2 ∧ v5.toInt = (p_st pb pn s61.2.2 : Int) ∧ v6.toInt = (p_sp pb pn s61.2.2 : Int) ∧ v7.toInt = p_va pb pn s61.2.2 ∧ v5.toInt = -1) := Im.i (fun z9 => absurd z9 h63.2.2)
        refine mv_iret d_Reader_refuse_14 rfl (by decide) ?_
        exact mv_iret d_Reader_bar_18 rfl (by decide) ⟨_, I58, _, rfl, by decide, by decide, fun h => absurd h (by decide), (by have := (Im.o h17) (by omega); have := yC.d ps.2.2; have := yC.kn ps.2.2; have hb : s61.1 ≠ 0 := (by omega); have z1 : ∀ c, p_sg pb pn c s61 = s61 := (fun c => p_sg_Z s61 hb); have z2 : ∀ c, p_wd pb pn c s61 = s61 := (fun c => p_wd_Z s61 hb); have z3 : ∀ op, p_sum pb pn pa op s61 = s61 := (fun op => p_sum_Z s61 hb); have z4 : ∀ r oc, p_con pb pn pa r oc s61 = s61 := (fun r oc => p_con_Z s61 hb); have z5 : p_prt pb pn s61 = s61 := p_prt_Z s61 hb; have eT : p_bar pb pn pa ps = s61 := (by unfold p_bar; (try simp only [e62, z1, z2, z3, z4, z5]); ((repeat' (first | (with_reducible rfl) | split)) <;> (first | ((try simp only [e62, z1, z2, z3, z4, z5]); done) | (exfalso; omega)))); rw [eT]; exact ⟨⟨_, _, _, _, _, _, _, (K60 _ 9 1 _ rfl q55), q59, (K60 _ 9 9 _ rfl (K56 _ 9 9 _ rfl q10)), (K60 _ 9 10 _ rfl (K56 _ 9 10 _ rfl q11)), (K60 _ 9 11 _ rfl (K56 _ 9 11 _ rfl q12)), (K60 _ 9 12 _ rfl (K56 _ 9 12 _ rfl q13)), (K60 _ 9 13 _ rfl (K56 _ 9 13 _ rfl q14)), h64, Im.o h65, Im.o h66⟩, (Or.inr ⟨by first | decide | omega, by omega⟩)⟩)⟩
      · refine mv_aload_n d_Reader_valueAmong_26 rfl rfl ?_
        refine tr_getK (k := 13) q14 d_Reader_valueAmong_27 f_Reader_241_9 ?_
        refine mv_iload_n d_Reader_valueAmong_30 rfl rfl ?_
        refine mv_isub d_Reader_valueAmong_31 ?_
        refine mv_goto (tgt := 36) d_Reader_valueAmong_32 (by decide) ?_
        refine mv_iret d_Reader_valueAmong_36 rfl (by first | rfl | decide) ?_
        refine mv_istore_n (lv' := [(2, .int (v7 - 19)), (0, .ref o0), (1, .ref o1)]) d_Reader_bar_7 rfl (by decide) rfl ?_
        refine mv_iload_n d_Reader_bar_8 rfl rfl ?_
        refine mv_iconst (v := (-1)) d_Reader_bar_9 (by decide) ?_
        have : ((v7 - 19) : Int32).toInt = v7.toInt - 19 := mz_sub2 rfl (by decide) (by omega) (by omega)
        have := mz_hi (v7 - 19)
        refine mv_icmp_neZ (tgt := 19) (a := (v7 - 19).toInt) (b := (-1)) d_Reader_bar_10 (by decide) rfl (by decide) (fun b67 => ?_) (fun b67 => ?_)
        · refine mv_aload_n d_Reader_bar_19 rfl rfl ?_
          obtain ⟨_, b74, -⟩ := I0.1 _ _ h_o0
          refine mv_callV (kc' := 3) (ks' := 451) (As := []) (st9 := [.ref o0]) d_Reader_bar_20 lV_Reader_82 b74 rfl (tc_Reader_advance_x (d := (d + 19)) (x9 := x9) (o0 := o0) h_o0 (hK I0) (qS.a (show qS M0 o0 pb pn ps from ⟨_, _, _, _, _, _, _, q8, q9, q10, q11, q12, q13, q14, h15, Im.o h16, Im.o h17⟩)) (by have := (Im.o h17) (by omega); have := yC.d ps.2.2; have := yC.kn ps.2.2; show ps.2.2 + 1 ≤ 401; omega) I0.start) rfl (Nat.le_of_ble_eq_true rfl) (Nat.le_of_ble_eq_true rfl) (Nat.le_of_ble_eq_true rfl) (hst := rfl) (fun b68r M69 n70 b68 => ?_)
          obtain ⟨T71, J72, rfl, f75⟩ := b68
          have I73 := I0.call J72 (tm_sub (by decide)) (Or.inl rfl)
          have t76 := J72.up h_o0
          have t77 := J72.up h_o1
          have q78 := J72.keep h_o0 (by decide) hO
          have q79 := J72.keep h_o0 (by decide) q8
          have q80 := J72.keep h_o0 (by decide) q9
          obtain ⟨s81, e82⟩ : ∃ s9 : p_S, p_nx ps = s9 := ⟨_, rfl⟩
          rw [e82] at f75
          have : s81.1 = 0 := by rw [← e82]; show ps.1 = 0; omega
          obtain ⟨v83, v84, v85, v86, v87, v88, v89, q90, q91, q92, q93, q94, q95, q96, h97, h98, h99⟩ := f75
          replace h98 := Im.i h98
          replace h99 := Im.i h99
          refine mv_aload_n d_Reader_bar_23 rfl rfl ?_
          refine mv_iconst (v := 0) d_Reader_bar_24 (by decide) ?_
          refine tr_putK tm_okF I73 t76 (k := 18) rfl ⟨_, rfl⟩ (Or.inl (by decide)) d_Reader_bar_25 p_Reader_118_9 rfl rfl (fun M100 I101 q102 K103 => ?_)
          refine mv_aload_n d_Reader_bar_28 rfl rfl ?_
          refine mv_bipush (v := 28) d_Reader_bar_29 (by decide) ?_
          obtain ⟨_, b110, -⟩ := I101.1 _ _ t76
          refine mv_callV (kc' := 3) (ks' := 451) (As := [.int 28]) (st9 := [.int 28, .ref o0]) d_Reader_bar_31 lV_Reader_121 b110 rfl (tc_Reader_word_x (d := (d + 18)) (x9 := x9) (o0 := o0) (x1 := 28) t76 (hK I101) ⟨_, _, _, _, _, _, _, (K103 _ 9 1 _ rfl q90), (K103 _ 9 2 _ rfl q91), (K103 _ 9 9 _ rfl q92), (K103 _ 9 10 _ rfl q93), (K103 _ 9 11 _ rfl q94), (K103 _ 9 12 _ rfl q95), (K103 _ 9 13 _ rfl q96), h97, Im.o h98, Im.o h99⟩ (by omega) (by first | omega | decide) I101.start) rfl (Nat.le_of_ble_eq_true rfl) (Nat.le_of_ble_eq_true rfl) (Nat.le_of_ble_eq_true rfl) (hst := rfl) (fun b104r M105 n106 b104 => ?_)
          obtain ⟨T107, J108, v111, rfl, b112, b113, f114, f115⟩ := b104
          have I109 := I101.call J108 (tm_sub (by decide)) (Or.inl rfl)
          have t116 := J108.up t76
          have t117 := J108.up t77
          have q118 := J108.keep t76 (by decide) (K103 _ 9 16 _ rfl q78)
          have q119 := J108.keep t76 (by decide) q102
          rw [show (28 : Int32).toInt = 28 from by decide] at f114 f115
          obtain ⟨s120, e121⟩ : ∃ s9 : p_S, p_wd pb pn 28 s81 = s9 := ⟨_, rfl⟩
          rw [e121] at f114 f115
          obtain ⟨v122, v123, v124, v125, v126, v127, v128, q129, q130, q131, q132, q133, q134, q135, h136, h137, h138⟩ := f114
          replace h137 := Im.i h137
          replace h138 := Im.i h138
          have := mz_hi v111
          refine mv_if_eqZ (tgt := 44) (a := v111.toInt) d_Reader_bar_34 (by decide) rfl (fun b139 => ?_) (fun b139 => ?_)
          · refine mv_iconst (v := 0) d_Reader_bar_44 (by decide) ?_
            exact mv_iret d_Reader_bar_45 rfl (by decide) ⟨_, I109, _, rfl, by decide, by decide, fun h => absurd h (by decide), (by have := (Im.o h17) (by omega); have := yC.d ps.2.2; have := yC.kn ps.2.2; have hb : s120.1 ≠ 0 := (by omega); have z1 : ∀ c, p_sg pb pn c s120 = s120 := (fun c => p_sg_Z s120 hb); have z2 : ∀ c, p_wd pb pn c s120 = s120 := (fun c => p_wd_Z s120 hb); have z3 : ∀ op, p_sum pb pn pa op s120 = s120 := (fun op => p_sum_Z s120 hb); have z4 : ∀ r oc, p_con pb pn pa r oc s120 = s120 := (fun r oc => p_con_Z s120 hb); have z5 : p_prt pb pn s120 = s120 := p_prt_Z s120 hb; have eT : p_bar pb pn pa ps = s120 := (by unfold p_bar; (try simp only [e82, e121, z1, z2, z3, z4, z5]); ((repeat' (first | (with_reducible rfl) | split)) <;> (first | ((try simp only [e82, e121, z1, z2, z3, z4, z5]); done) | (exfalso; omega)))); rw [eT]; exact ⟨⟨_, _, _, _, _, _, _, q129, q130, q131, q132, q133, q134, q135, h136, Im.o h137, Im.o h138⟩, (Or.inr ⟨by first | decide | omega, by omega⟩)⟩)⟩
          · refine mv_aload_n d_Reader_bar_37 rfl rfl ?_
            obtain ⟨_, b146, -⟩ := I109.1 _ _ t116
            refine mv_callV (kc' := 3) (ks' := 451) (As := []) (st9 := [.ref o0]) d_Reader_bar_38 lV_Reader_124 b146 rfl (tc_Reader_condition_q4_x (d := d) (x9 := x9) (o0 := o0) t116 (p := p) q118 (by omega) (by first | omega | decide) (hK I109) ⟨_, _, _, _, _, _, _, q129, q130, q131, q132, q133, q134, q135, h136, Im.o h137, Im.o h138⟩ (by omega) I109.start) rfl (Nat.le_of_ble_eq_true rfl) (Nat.le_of_ble_eq_true rfl) (Nat.le_of_ble_eq_true rfl) (hst := rfl) (fun b140r M141 n142 b140 => ?_)
            obtain ⟨T143, J144, v147, rfl, b148, b149, o150, f151, f152⟩ := b140
            have I145 := I109.call J144 (tm_sub (by decide)) (Or.inl rfl)
            have t153 := J144.up t116
            have t154 := J144.up t117
            obtain ⟨s155, e156⟩ : ∃ s9 : p_S, p_con pb pn pa 4 (p_oc pb pn pa 4) s120 = s9 := ⟨_, rfl⟩
            rw [e156] at f151 f152
            obtain ⟨v157, v158, v159, v160, v161, v162, v163, q164, q165, q166, q167, q168, q169, q170, h171, h172, h173⟩ := f151
            replace h172 := Im.i h172
            replace h173 := Im.i h173
            have := mz_hi v147
            refine mv_if_neZ (tgt := 46) (a := v147.toInt) d_Reader_bar_41 (by decide) rfl (fun b174 => ?_) (fun b174 => ?_)
            · have q175 := o150 (by omega)
              refine mv_aload_n d_Reader_bar_46 rfl rfl ?_
              refine mv_iload_n d_Reader_bar_47 rfl rfl ?_
              refine mv_aload_n d_Reader_bar_48 rfl rfl ?_
              obtain ⟨_, b182, -⟩ := I145.1 _ _ t153
              refine mv_callV (kc' := 1) (ks' := 50) (As := []) (st9 := [.ref o0, .int (v7 - 19), .ref o1]) d_Reader_bar_49 lV_Reader_128 b182 rfl (tc_Reader_stepsTaken (d := (d + 17)) (x9 := x9) (o0 := o0) t153 I145.start) rfl (Nat.le_of_ble_eq_true rfl) (Nat.le_of_ble_eq_true rfl) (Nat.le_of_ble_eq_true rfl) (hst := rfl) (fun b176r M177 n178 b176 => ?_)
              obtain ⟨T179, J180, a183, rfl, t_a183⟩ := b176
              have I181 := I145.call J180 (tm_sub (by decide)) (Or.inl rfl)
              have t184 := J180.up t153
              have t185 := J180.up t154
              have q186 := J180.keep (I145.up h_o0) (by decide) q164
              have q187 := J180.keep (I145.up h_o0) (by decide) q165
              have q188 := J180.keep (I145.up h_o0) (by decide) q166
              have q189 := J180.keep (I145.up h_o0) (by decide) q167
              have q190 := J180.keep (I145.up h_o0) (by decide) q168
              have q191 := J180.keep (I145.up h_o0) (by decide) q169
              have q192 := J180.keep (I145.up h_o0) (by decide) q170
              have q193 := J180.keep t153 (by decide) q175
              obtain ⟨_, b200, -⟩ := I181.1 _ _ t185
              refine mv_callV (kc' := 0) (ks' := 0) (As := [.int (v7 - 19), .ref a183]) (st9 := [.ref a183, .int (v7 - 19), .ref o1]) d_Reader_bar_52 lV_Reader_132 b200 rfl (tc_Act_addBar (d := (d + 12)) (x9 := x9) (o0 := o1) (x1 := (v7 - 19)) (o2 := a183) t185 t_a183 I181.start) rfl (Nat.le_of_ble_eq_true rfl) (Nat.le_of_ble_eq_true rfl) (Nat.le_of_ble_eq_true rfl) (hst := rfl) (fun b194r M195 n196 b194 => ?_)
              obtain ⟨T197, J198, rfl⟩ := b194
              have I199 := I181.call J198 (tm_sub (by decide)) (Or.inl rfl)
              have t201 := J198.up t184
              have t202 := J198.up t185
              have q203 := J198.keep t184 (by decide) q186
              have q204 := J198.keep t184 (by decide) q187
              have q205 := J198.keep t184 (by decide) q188
              have q206 := J198.keep t184 (by decide) q189
              have q207 := J198.keep t184 (by decide) q190
              have q208 := J198.keep t184 (by decide) q191
              have q209 := J198.keep t184 (by decide) q192
              have q210 := J198.keep t184 (by decide) q193
              refine mv_iconst (v := 1) d_Reader_bar_55 (by decide) ?_
              exact mv_iret d_Reader_bar_56 rfl (by decide) ⟨_, I199, _, rfl, by decide, by decide, fun _ => q210, (by have := (Im.o h17) (by omega); have := yC.d ps.2.2; have := yC.kn ps.2.2; have eT : p_bar pb pn pa ps = s155 := (by unfold p_bar; (try simp only [e82, e121, e156]); ((repeat' (first | (with_reducible rfl) | split)) <;> (first | ((try simp only [e82, e121, e156]); done) | (exfalso; omega)))); rw [eT]; exact ⟨⟨_, _, _, _, _, _, _, q203, q204, q205, q206, q207, q208, q209, h171, Im.o h172, Im.o h173⟩, (Or.inl ⟨by first | decide | omega, by omega⟩)⟩)⟩
            · refine mv_iconst (v := 0) d_Reader_bar_44 (by decide) ?_
              exact mv_iret d_Reader_bar_45 rfl (by decide) ⟨_, I145, _, rfl, by decide, by decide, fun h => absurd h (by decide), (by have := (Im.o h17) (by omega); have := yC.d ps.2.2; have := yC.kn ps.2.2; have hb : s155.1 ≠ 0 := (by omega); have z1 : ∀ c, p_sg pb pn c s155 = s155 := (fun c => p_sg_Z s155 hb); have z2 : ∀ c, p_wd pb pn c s155 = s155 := (fun c => p_wd_Z s155 hb); have z3 : ∀ op, p_sum pb pn pa op s155 = s155 := (fun op => p_sum_Z s155 hb); have z4 : ∀ r oc, p_con pb pn pa r oc s155 = s155 := (fun r oc => p_con_Z s155 hb); have z5 : p_prt pb pn s155 = s155 := p_prt_Z s155 hb; have eT : p_bar pb pn pa ps = s155 := (by unfold p_bar; (try simp only [e82, e121, e156, z1, z2, z3, z4, z5]); ((repeat' (first | (with_reducible rfl) | split)) <;> (first | ((try simp only [e82, e121, e156, z1, z2, z3, z4, z5]); done) | (exfalso; omega)))); rw [eT]; exact ⟨⟨_, _, _, _, _, _, _, q164, q165, q166, q167, q168, q169, q170, h171, Im.o h172, Im.o h173⟩, (Or.inr ⟨by first | decide | omega, by omega⟩)⟩)⟩
        · refine mv_aload_n d_Reader_bar_13 rfl rfl ?_
          refine mv_iconst (v := 1) d_Reader_bar_14 (by decide) ?_
          obtain ⟨_, b211, -⟩ := I0.1 _ _ h_o0
          refine mv_callV (kc1 := 0) (ks1 := 0) (kc' := 0) (ks' := 0) (As := [.int 1]) (st9 := [.int 1, .ref o0]) d_Reader_bar_15 lV_Reader_56 b211 rfl (mj_enter (by decide) (Nat.le_of_ble_eq_true rfl) ?_) rfl (Nat.le_of_ble_eq_true rfl) (Nat.le_of_ble_eq_true rfl) (Nat.le_of_ble_eq_true rfl) (hst := rfl) (fun _ _ _ h => h)
          refine mv_aload_n d_Reader_refuse_0 rfl rfl ?_
          refine mv_iload_n d_Reader_refuse_1 rfl rfl ?_
          refine tr_putK tm_okF I0 h_o0 (k := 1) rfl ⟨_, rfl⟩ (Or.inl (by decide)) d_Reader_refuse_2 p_Reader_70_9 rfl rfl (fun M212 I213 q214 K215 => ?_)
          refine mv_aload_n d_Reader_refuse_5 rfl rfl ?_
          refine mv_aload_n d_Reader_refuse_6 rfl rfl ?_
          refine tr_getK (k := 11) (K215 _ 9 11 _ rfl q12) d_Reader_refuse_7 f_Reader_175_9 ?_
          refine tr_putK tm_okF I213 h_o0 (k := 2) rfl ⟨_, rfl⟩ (Or.inl (by decide)) d_Reader_refuse_10 p_Reader_11_9 rfl rfl (fun M216 I217 q218 K219 => ?_)
          refine mv_iconst (v := 0) d_Reader_refuse_13 (by decide) ?_
          obtain ⟨s220, e221⟩ : ∃ s9 : p_S, p_fl pb pn 1 ps = s9 := ⟨_, rfl⟩
          have h222 := q_fl e221 (by omega) (by decide)
          have h223 : (1 : Int32).toInt = s220.1 := (by have e9 : (1 : Int32).toInt = 1 := (by decide); omega)
          have h224 : Im (s220.1 ≠ 0 → v5.toInt = (s220.2.1 : Int)) := Im.i (fun _ => by have := (Im.o h17) (by omega); omega)
          have h225 : Im (s220.1 = 0 → v3.toInt = (s220.2.2 : Int) ∧ v4.toInt = p_ki pb pn s220.2.2 ∧ v5.toInt = (p_st pb pn s220.2.2 : Int) ∧ v6.toInt = (p_sp pb pn s220.2.2 : Int) ∧ v7.toInt = p_va pb pn s220.2.2 ∧ v5.toInt = -1) := Im.i (fun z9 => absurd z9 h222.2.2)
          refine mv_iret d_Reader_refuse_14 rfl (by decide) ?_
          exact mv_iret d_Reader_bar_18 rfl (by decide) ⟨_, I217, _, rfl, by decide, by decide, fun h => absurd h (by decide), (by have := (Im.o h17) (by omega); have := yC.d ps.2.2; have := yC.kn ps.2.2; have hb : s220.1 ≠ 0 := (by omega); have z1 : ∀ c, p_sg pb pn c s220 = s220 := (fun c => p_sg_Z s220 hb); have z2 : ∀ c, p_wd pb pn c s220 = s220 := (fun c => p_wd_Z s220 hb); have z3 : ∀ op, p_sum pb pn pa op s220 = s220 := (fun op => p_sum_Z s220 hb); have z4 : ∀ r oc, p_con pb pn pa r oc s220 = s220 := (fun r oc => p_con_Z s220 hb); have z5 : p_prt pb pn s220 = s220 := p_prt_Z s220 hb; have eT : p_bar pb pn pa ps = s220 := (by unfold p_bar; (try simp only [e221, z1, z2, z3, z4, z5]); ((repeat' (first | (with_reducible rfl) | split)) <;> (first | ((try simp only [e221, z1, z2, z3, z4, z5]); done) | (exfalso; omega)))); rw [eT]; exact ⟨⟨_, _, _, _, _, _, _, (K219 _ 9 1 _ rfl q214), q218, (K219 _ 9 9 _ rfl (K215 _ 9 9 _ rfl q10)), (K219 _ 9 10 _ rfl (K215 _ 9 10 _ rfl q11)), (K219 _ 9 11 _ rfl (K215 _ 9 11 _ rfl q12)), (K219 _ 9 12 _ rfl (K215 _ 9 12 _ rfl q13)), (K219 _ 9 13 _ rfl (K215 _ 9 13 _ rfl q14)), h223, Im.o h224, Im.o h225⟩, (Or.inr ⟨by first | decide | omega, by omega⟩)⟩)⟩
