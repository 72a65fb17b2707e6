def w_Reader_openBracket_q0_x : List Nat := [901, 902, 909, 910, 911, 912, 913, 916]
set_option maxHeartbeats 100000000 in theorem tc_Reader_openBracket_q0_x {g : mj_G} {l : Launch} {d : Nat} {T0 : tm_H} {M0 : mj_M} {n0 x9 : Nat} {o0 : Nat} (h_o0 : T0 o0 = some (0, 9, 0)) {p : Int32} (hO : tm_at M0 o0 9 16 (.int p)) (hp : 4 ≤ p.toInt)  (hp2 : p.toInt ≤ 4) {pb : Nat → Int} {pn : Nat} {pa : Int} {ps : p_S} (yC : qC M0 o0 pb pn pa) (yD : qS M0 o0 pb pn ps) (yw : ps.1 = 0) (yz : p_ki pb pn ps.2.2 ≠ 0) (I0 : tm_I tm_FT (tm_in w_Reader_openBracket_q0_x) x9 T0 M0 n0 T0 M0 n0) : mj_Met g l kY_Reader_openBracket (d + 1) [.ref o0] M0 n0 0 0 (tm_Q tm_FT (tm_in w_Reader_openBracket_q0_x) x9 T0 M0 n0 (fun r _ M => ∃ v : Int32, r = some (.int v) ∧ 0 ≤ v.toInt ∧ v.toInt ≤ 1 ∧ (v.toInt = 1 → p.toInt < 4 ∧ tm_at M o0 9 16 (.int (p + 1))) ∧ (qS M o0 pb pn (p_fl pb pn 4 ps)) ∧ (v.toInt = 1 ∧ (p_fl pb pn 4 ps).1 = 0 ∨ v.toInt = 0 ∧ (p_fl pb pn 4 ps).1 ≠ 0))) := by
  refine mj_enter (by decide) (Nat.le_of_ble_eq_true rfl) ?_
  have hK : ∀ {T : tm_H} {M : mj_M} {n : Nat}, tm_I tm_FT (tm_in w_Reader_openBracket_q0_x) x9 T0 M0 n0 T M n → qC M o0 pb pn pa := fun I => yC.keep I0.1 I h_o0 (qW_of (by decide +kernel))
  obtain ⟨v1, v2, v3, v4, v5, v6, v7, q8, q9, q10, q11, q12, q13, q14, h15, h16, h17⟩ := yD
  replace h16 := Im.i h16
  replace h17 := Im.i h17
  have := yC.kn ps.2.2
  refine mv_aload_n d_Reader_openBracket_0 rfl rfl ?_
  refine tr_getK (k := 16) hO d_Reader_openBracket_1 f_Reader_73_9 ?_
  refine mv_iconst (v := 4) d_Reader_openBracket_4 (by decide) ?_
  have := mz_hi p
  refine mv_icmp_ltZ (tgt := 14) (a := p.toInt) (b := 4) d_Reader_openBracket_5 (by decide) rfl (by decide) (fun b18 => ?_) (fun b18 => ?_)
  · refine mv_aload_n d_Reader_openBracket_14 rfl rfl ?_
    refine mv_dup d_Reader_openBracket_15 rfl ?_
    refine tr_getK (k := 16) hO d_Reader_openBracket_16 f_Reader_73_9 ?_
    refine mv_iconst (v := 1) d_Reader_openBracket_19 (by decide) ?_
    refine mv_iadd d_Reader_openBracket_20 ?_
    refine tr_putK tm_okF I0 h_o0 (k := 16) rfl ⟨_, rfl⟩ (Or.inl (by decide)) d_Reader_openBracket_21 p_Reader_73_9 rfl rfl (fun M19 I20 q21 K22 => ?_)
    refine mv_aload_n d_Reader_openBracket_24 rfl rfl ?_
    obtain ⟨_, b29, -⟩ := I20.1 _ _ h_o0
    refine mv_callV (kc' := 0) (ks' := 0) (As := []) (st9 := [.ref o0]) d_Reader_openBracket_25 lV_Reader_82 b29 rfl (tc_Reader_advance_x (d := d) (x9 := x9) (o0 := o0) h_o0 (hK I20) (qS.a (show qS M19 o0 pb pn ps from ⟨_, _, _, _, _, _, _, (K22 _ 9 1 _ rfl q8), (K22 _ 9 2 _ rfl q9), (K22 _ 9 9 _ rfl q10), (K22 _ 9 10 _ rfl q11), (K22 _ 9 11 _ rfl q12), (K22 _ 9 12 _ rfl q13), (K22 _ 9 13 _ rfl q14), h15, Im.o h16, Im.o h17⟩)) (by show ps.2.2 + 1 ≤ 401; omega) I20.start) rfl (Nat.le_of_ble_eq_true rfl) (Nat.le_of_ble_eq_true rfl) (Nat.le_of_ble_eq_true rfl) (hst := rfl) (fun b23r M24 n25 b23 => ?_)
    obtain ⟨T26, J27, rfl, f30⟩ := b23
    have I28 := I20.call J27 (tm_sub (by decide)) (Or.inl rfl)
    have t31 := J27.up h_o0
    have q32 := J27.keep h_o0 (by decide) (K22 _ 9 1 _ rfl q8)
    have q33 := J27.keep h_o0 (by decide) (K22 _ 9 2 _ rfl q9)
    have q34 := J27.keep h_o0 (by decide) q21
    obtain ⟨s35, e36⟩ : ∃ s9 : p_S, p_nx ps = s9 := ⟨_, rfl⟩
    rw [e36] at f30
    have : s35.1 = 0 := by rw [← e36]; show ps.1 = 0; omega
    obtain ⟨v37, v38, v39, v40, v41, v42, v43, q44, q45, q46, q47, q48, q49, q50, h51, h52, h53⟩ := f30
    replace h52 := Im.i h52
    replace h53 := Im.i h53
    refine mv_iconst (v := 1) d_Reader_openBracket_28 (by decide) ?_
    exact mv_iret d_Reader_openBracket_29 rfl (by decide) ⟨_, I28, _, rfl, by decide, by decide, fun _ => ⟨by omega, q34⟩, (by exfalso; omega)⟩
  · refine mv_aload_n d_Reader_openBracket_8 rfl rfl ?_
    refine mv_iconst (v := 4) d_Reader_openBracket_9 (by decide) ?_
    obtain ⟨_, b54, -⟩ := I0.1 _ _ h_o0
    refine mv_callV (kc1 := 0) (ks1 := 0) (kc' := 0) (ks' := 0) (As := [.int 4]) (st9 := [.int 4, .ref o0]) d_Reader_openBracket_10 lV_Reader_56 b54 rfl (mj_enter (by decide) (Nat.le_of_ble_eq_true rfl) ?_) rfl (Nat.le_of_ble_eq_true rfl) (Nat.le_of_ble_eq_true rfl) (Nat.le_of_ble_eq_true rfl) (hst := rfl) (fun _ _ _ h => h)
    refine mv_aload_n d_Reader_refuse_0 rfl rfl ?_
    refine mv_iload_n d_Reader_refuse_1 rfl rfl ?_
    refine tr_putK tm_okF I0 h_o0 (k := 1) rfl ⟨_, rfl⟩ (Or.inl (by decide)) d_Reader_refuse_2 p_Reader_70_9 rfl rfl (fun M55 I56 q57 K58 => ?_)
    refine mv_aload_n d_Reader_refuse_5 rfl rfl ?_
    refine mv_aload_n d_Reader_refuse_6 rfl rfl ?_
    refine tr_getK (k := 11) (K58 _ 9 11 _ rfl q12) d_Reader_refuse_7 f_Reader_175_9 ?_
    refine tr_putK tm_okF I56 h_o0 (k := 2) rfl ⟨_, rfl⟩ (Or.inl (by decide)) d_Reader_refuse_10 p_Reader_11_9 rfl rfl (fun M59 I60 q61 K62 => ?_)
    refine mv_iconst (v := 0) d_Reader_refuse_13 (by decide) ?_
    obtain ⟨s63, e64⟩ : ∃ s9 : p_S, p_fl pb pn 4 ps = s9 := ⟨_, rfl⟩
    have h65 := q_fl e64 (by omega) (by decide)
    have h66 : (4 : Int32).toInt = s63.1 := (by have e9 : (4 : Int32).toInt = 4 := (by decide); omega)
    have h67 : Im (s63.1 ≠ 0 → v5.toInt = (s63.2.1 : Int)) := Im.i (fun _ => by have := (Im.o h17) (by omega); omega)
    have h68 : Im (s63.1 = 0 → v3.toInt = (s63.2.2 : Int) ∧ v4.toInt = p_ki pb pn s63.2.2 ∧ v5.toInt = (p_st pb pn s63.2.2 : Int) ∧ v6.toInt = (p_sp pb pn s63.2.2 : Int) ∧ v7.toInt = p_va pb pn s63.2.2 ∧ v5.toInt = -1) := Im.i (fun z9 => absurd z9 h65.2.2)
    refine mv_iret d_Reader_refuse_14 rfl (by decide) ?_
    exact mv_iret d_Reader_openBracket_13 rfl (by decide) ⟨_, I60, _, rfl, by decide, by decide, fun h => absurd h (by decide), (by have := (Im.o h17) (by omega); have := yC.d ps.2.2; have := yC.kn ps.2.2; have hb : s63.1 ≠ 0 := (by omega); have z1 : ∀ c, p_sg pb pn c s63 = s63 := (fun c => p_sg_Z s63 hb); have z2 : ∀ c, p_wd pb pn c s63 = s63 := (fun c => p_wd_Z s63 hb); have z3 : ∀ op, p_sum pb pn pa op s63 = s63 := (fun op => p_sum_Z s63 hb); have z4 : ∀ r oc, p_con pb pn pa r oc s63 = s63 := (fun r oc => p_con_Z s63 hb); have z5 : p_prt pb pn s63 = s63 := p_prt_Z s63 hb; have eT : p_fl pb pn 4 ps = s63 := (by (try simp only [e64, z1, z2, z3, z4, z5])); rw [eT]; exact ⟨⟨_, _, _, _, _, _, _, (K62 _ 9 1 _ rfl q57), q61, (K62 _ 9 9 _ rfl (K58 _ 9 9 _ rfl q10)), (K62 _ 9 10 _ rfl (K58 _ 9 10 _ rfl q11)), (K62 _ 9 11 _ rfl (K58 _ 9 11 _ rfl q12)), (K62 _ 9 12 _ rfl (K58 _ 9 12 _ rfl q13)), (K62 _ 9 13 _ rfl (K58 _ 9 13 _ rfl q14)), h66, Im.o h67, Im.o h68⟩, (Or.inr ⟨by first | decide | omega, by omega⟩)⟩)⟩
def w_Reader_factor_q0_x : List Nat := [901, 902, 909, 910, 911, 912, 913, 914, 916, 918, 967]
set_option maxHeartbeats 100000000 in theorem tc_Reader_factor_q0_x {g : mj_G} {l : Launch} {d : Nat} {T0 : tm_H} {M0 : mj_M} {n0 x9 : Nat} {o0 : Nat} (h_o0 : T0 o0 = some (0, 9, 0)) {p : Int32} (hO : tm_at M0 o0 9 16 (.int p)) (hp : 4 ≤ p.toInt)  (hp2 : p.toInt ≤ 4) {pb : Nat → Int} {pn : Nat} {pa : Int} {ps : p_S} (yC : qC M0 o0 pb pn pa) (yD : qS M0 o0 pb pn ps) (yw : ps.1 = 0) (I0 : tm_I tm_FT (tm_in w_Reader_factor_q0_x) x9 T0 M0 n0 T0 M0 n0) : mj_Met g l kY_Reader_factor (d + 2) [.ref o0] M0 n0 0 0 (tm_Q tm_FT (tm_in w_Reader_factor_q0_x) x9 T0 M0 n0 (fun r _ M => ∃ v : Int32, r = some (.int v) ∧ 0 ≤ v.toInt ∧ v.toInt ≤ 1 ∧ (v.toInt = 1 → tm_at M o0 9 16 (.int p)) ∧ (qS M o0 pb pn (p_fac pb pn pa (p_op pb pn pa 0) ps)) ∧ (v.toInt = 1 ∧ (p_fac pb pn pa (p_op pb pn pa 0) ps).1 = 0 ∨ v.toInt = 0 ∧ (p_fac pb pn pa (p_op pb pn pa 0) ps).1 ≠ 0))) := by
  refine mj_enter (by decide) (Nat.le_of_ble_eq_true rfl) ?_
  have hK : ∀ {T : tm_H} {M : mj_M} {n : Nat}, tm_I tm_FT (tm_in w_Reader_factor_q0_x) x9 T0 M0 n0 T M n → qC M o0 pb pn pa := fun I => yC.keep I0.1 I h_o0 (qW_of (by decide +kernel))
  obtain ⟨v1, v2, v3, v4, v5, v6, v7, q8, q9, q10, q11, q12, q13, q14, h15, h16, h17⟩ := yD
  replace h16 := Im.i h16
  replace h17 := Im.i h17
  refine mv_aload_n d_Reader_factor_0 rfl rfl ?_
  refine tr_getK (k := 10) q11 d_Reader_factor_1 f_Reader_41_9 ?_
  refine mv_iconst (v := 2) d_Reader_factor_4 (by decide) ?_
  have := mz_hi v4
  refine mv_icmp_neZ (tgt := 32) (a := v4.toInt) (b := 2) d_Reader_factor_5 (by decide) rfl (by decide) (fun b18 => ?_) (fun b18 => ?_)
  · refine mv_aload_n d_Reader_factor_32 rfl rfl ?_
    refine tr_getK (k := 10) q11 d_Reader_factor_33 f_Reader_41_9 ?_
    refine mv_iconst (v := 1) d_Reader_factor_36 (by decide) ?_
    have := mz_hi v4
    refine mv_icmp_neZ (tgt := 73) (a := v4.toInt) (b := 1) d_Reader_factor_37 (by decide) rfl (by decide) (fun b19 => ?_) (fun b19 => ?_)
    · refine mv_aload_n d_Reader_factor_73 rfl rfl ?_
      refine mv_bipush (v := 40) d_Reader_factor_74 (by decide) ?_
      obtain ⟨_, b20, -⟩ := I0.1 _ _ h_o0
      refine mv_callV (kc1 := 0) (ks1 := 0) (kc' := 0) (ks' := 0) (As := [.int 40]) (st9 := [.int 40, .ref o0]) d_Reader_factor_76 lV_Reader_209 b20 rfl (mj_enter (by decide) (Nat.le_of_ble_eq_true rfl) ?_) rfl (Nat.le_of_ble_eq_true rfl) (Nat.le_of_ble_eq_true rfl) (Nat.le_of_ble_eq_true rfl) (hst := rfl) (fun _ _ _ h => h)
      refine mv_aload_n d_Reader_isSign_0 rfl rfl ?_
      refine tr_getK (k := 10) q11 d_Reader_isSign_1 f_Reader_41_9 ?_
      refine mv_iconst (v := 3) d_Reader_isSign_4 (by decide) ?_
      have := mz_hi v4
      refine mv_icmp_neZ (tgt := 20) (a := v4.toInt) (b := 3) d_Reader_isSign_5 (by decide) rfl (by decide) (fun b21 => ?_) (fun b21 => ?_)
      · refine mv_iconst (v := 0) d_Reader_isSign_20 (by decide) ?_
        refine mv_iret d_Reader_isSign_21 rfl (by decide) ?_
        refine mv_if_ne_f (tgt := 88) d_Reader_factor_79 (by decide) (by decide) ?_
        refine mv_aload_n d_Reader_factor_82 rfl rfl ?_
        refine mv_iconst (v := 1) d_Reader_factor_83 (by decide) ?_
        obtain ⟨_, b22, -⟩ := I0.1 _ _ h_o0
        refine mv_callV (kc1 := 0) (ks1 := 0) (kc' := 0) (ks' := 0) (As := [.int 1]) (st9 := [.int 1, .ref o0]) d_Reader_factor_84 lV_Reader_56 b22 rfl (mj_enter (by decide) (Nat.le_of_ble_eq_true rfl) ?_) rfl (Nat.le_of_ble_eq_true rfl) (Nat.le_of_ble_eq_true rfl) (Nat.le_of_ble_eq_true rfl) (hst := rfl) (fun _ _ _ h => h)
        refine mv_aload_n d_Reader_refuse_0 rfl rfl ?_
        refine mv_iload_n d_Reader_refuse_1 rfl rfl ?_
        refine tr_putK tm_okF I0 h_o0 (k := 1) rfl ⟨_, rfl⟩ (Or.inl (by decide)) d_Reader_refuse_2 p_Reader_70_9 rfl rfl (fun M23 I24 q25 K26 => ?_)
        refine mv_aload_n d_Reader_refuse_5 rfl rfl ?_
        refine mv_aload_n d_Reader_refuse_6 rfl rfl ?_
        refine tr_getK (k := 11) (K26 _ 9 11 _ rfl q12) d_Reader_refuse_7 f_Reader_175_9 ?_
        refine tr_putK tm_okF I24 h_o0 (k := 2) rfl ⟨_, rfl⟩ (Or.inl (by decide)) d_Reader_refuse_10 p_Reader_11_9 rfl rfl (fun M27 I28 q29 K30 => ?_)
        refine mv_iconst (v := 0) d_Reader_refuse_13 (by decide) ?_
        obtain ⟨s31, e32⟩ : ∃ s9 : p_S, p_fl pb pn 1 ps = s9 := ⟨_, rfl⟩
        have h33 := q_fl e32 (by omega) (by decide)
        have h34 : (1 : Int32).toInt = s31.1 := (by have e9 : (1 : Int32).toInt = 1 := (by decide); omega)
        have h35 : Im (s31.1 ≠ 0 → v5.toInt = (s31.2.1 : Int)) := Im.i (fun _ => by have := (Im.o h17) (by omega); omega)
        have h36 : Im (s31.1 = 0 → v3.toInt = (s31.2.2 : Int) ∧ v4.toInt = p_ki pb pn s31.2.2 ∧ v5.toInt = (p_st pb pn s31.2.2 : Int) ∧ v6.toInt = (p_sp pb pn s31.2.2 : Int) ∧ v7.toInt = p_va pb pn s31.2.2 ∧ v5.toInt = -1) := Im.i (fun z9 => absurd z9 h33.2.2)
        refine mv_iret d_Reader_refuse_14 rfl (by decide) ?_
        exact mv_iret d_Reader_factor_87 rfl (by decide) ⟨_, I28, _, rfl, by decide, by decide, fun h => absurd h (by decide), (by have := (Im.o h17) (by omega); have := yC.d ps.2.2; have := yC.kn ps.2.2; have hb : s31.1 ≠ 0 := (by omega); have z1 : ∀ c, p_sg pb pn c s31 = s31 := (fun c => p_sg_Z s31 hb); have z2 : ∀ c, p_wd pb pn c s31 = s31 := (fun c => p_wd_Z s31 hb); have z3 : ∀ op, p_sum pb pn pa op s31 = s31 := (fun op => p_sum_Z s31 hb); have z4 : ∀ r oc, p_con pb pn pa r oc s31 = s31 := (fun r oc => p_con_Z s31 hb); have z5 : p_prt pb pn s31 = s31 := p_prt_Z s31 hb; have eT : p_fac pb pn pa (p_op pb pn pa 0) ps = s31 := (by have hop : p_op pb pn pa 0 ps = p_fl pb pn 4 ps := rfl; unfold p_fac; (try simp only [hop]); (try simp only [e32, z1, z2, z3, z4, z5]); ((repeat' (first | (with_reducible rfl) | split)) <;> (first | ((try simp only [e32, z1, z2, z3, z4, z5]); done) | (exfalso; omega)))); rw [eT]; exact ⟨⟨_, _, _, _, _, _, _, (K30 _ 9 1 _ rfl q25), q29, (K30 _ 9 9 _ rfl (K26 _ 9 9 _ rfl q10)), (K30 _ 9 10 _ rfl (K26 _ 9 10 _ rfl q11)), (K30 _ 9 11 _ rfl (K26 _ 9 11 _ rfl q12)), (K30 _ 9 12 _ rfl (K26 _ 9 12 _ rfl q13)), (K30 _ 9 13 _ rfl (K26 _ 9 13 _ rfl q14)), h34, Im.o h35, Im.o h36⟩, (Or.inr ⟨by first | decide | omega, by omega⟩)⟩)⟩
      · refine mv_aload_n d_Reader_isSign_8 rfl rfl ?_
        refine tr_getK (k := 13) q14 d_Reader_isSign_9 f_Reader_241_9 ?_
        refine mv_iload_n d_Reader_isSign_12 rfl rfl ?_
        have := mz_hi v7
        refine mv_icmp_neZ (tgt := 20) (a := v7.toInt) (b := 40) d_Reader_isSign_13 (by decide) rfl (by decide) (fun b37 => ?_) (fun b37 => ?_)
        · refine mv_iconst (v := 0) d_Reader_isSign_20 (by decide) ?_
          refine mv_iret d_Reader_isSign_21 rfl (by decide) ?_
          refine mv_if_ne_f (tgt := 88) d_Reader_factor_79 (by decide) (by decide) ?_
          refine mv_aload_n d_Reader_factor_82 rfl rfl ?_
          refine mv_iconst (v := 1) d_Reader_factor_83 (by decide) ?_
          obtain ⟨_, b38, -⟩ := I0.1 _ _ h_o0
          refine mv_callV (kc1 := 0) (ks1 := 0) (kc' := 0) (ks' := 0) (As := [.int 1]) (st9 := [.int 1, .ref o0]) d_Reader_factor_84 lV_Reader_56 b38 rfl (mj_enter (by decide) (Nat.le_of_ble_eq_true rfl) ?_) rfl (Nat.le_of_ble_eq_true rfl) (Nat.le_of_ble_eq_true rfl) (Nat.le_of_ble_eq_true rfl) (hst := rfl) (fun _ _ _ h => h)
          refine mv_aload_n d_Reader_refuse_0 rfl rfl ?_
          refine mv_iload_n d_Reader_refuse_1 rfl rfl ?_
          refine tr_putK tm_okF I0 h_o0 (k := 1) rfl ⟨_, rfl⟩ (Or.inl (by decide)) d_Reader_refuse_2 p_Reader_70_9 rfl rfl (fun M39 I40 q41 K42 => ?_)
          refine mv_aload_n d_Reader_refuse_5 rfl rfl ?_
          refine mv_aload_n d_Reader_refuse_6 rfl rfl ?_
          refine tr_getK (k := 11) (K42 _ 9 11 _ rfl q12) d_Reader_refuse_7 f_Reader_175_9 ?_
          refine tr_putK tm_okF I40 h_o0 (k := 2) rfl ⟨_, rfl⟩ (Or.inl (by decide)) d_Reader_refuse_10 p_Reader_11_9 rfl rfl (fun M43 I44 q45 K46 => ?_)
          refine mv_iconst (v := 0) d_Reader_refuse_13 (by decide) ?_
          obtain ⟨s47, e48⟩ : ∃ s9 : p_S, p_fl pb pn 1 ps = s9 := ⟨_, rfl⟩
          have h49 := q_fl e48 (by omega) (by decide)
          have h50 : (1 : Int32).toInt = s47.1 := (by have e9 : (1 : Int32).toInt = 1 := (by decide); omega)
          have h51 : Im (s47.1 ≠ 0 → v5.toInt = (s47.2.1 : Int)) := Im.i (fun _ => by have := (Im.o h17) (by omega); omega)
          have h52 : Im (s47.1 = 0 → v3.toInt = (s47.2.2 : Int) ∧ v4.toInt = p_ki pb pn s47.2.2 ∧ v5.toInt = (p_st pb pn s47.2.2 : Int) ∧ v6.toInt = (p_sp pb pn s47.2.2 : Int) ∧ v7.toInt = p_va pb pn s47.2.2 ∧ v5.toInt = -1) := Im.i (fun z9 => absurd z9 h49.2.2)
          refine mv_iret d_Reader_refuse_14 rfl (by decide) ?_
          exact mv_iret d_Reader_factor_87 rfl (by decide) ⟨_, I44, _, rfl, by decide, by decide, fun h => absurd h (by decide), (by have := (Im.o h17) (by omega); have := yC.d ps.2.2; have := yC.kn ps.2.2; have hb : s47.1 ≠ 0 := (by omega); have z1 : ∀ c, p_sg pb pn c s47 = s47 := (fun c => p_sg_Z s47 hb); have z2 : ∀ c, p_wd pb pn c s47 = s47 := (fun c => p_wd_Z s47 hb); have z3 : ∀ op, p_sum pb pn pa op s47 = s47 := (fun op => p_sum_Z s47 hb); have z4 : ∀ r oc, p_con pb pn pa r oc s47 = s47 := (fun r oc => p_con_Z s47 hb); have z5 : p_prt pb pn s47 = s47 := p_prt_Z s47 hb; have eT : p_fac pb pn pa (p_op pb pn pa 0) ps = s47 := (by have hop : p_op pb pn pa 0 ps = p_fl pb pn 4 ps := rfl; unfold p_fac; (try simp only [hop]); (try simp only [e48, z1, z2, z3, z4, z5]); ((repeat' (first | (with_reducible rfl) | split)) <;> (first | ((try simp only [e48, z1, z2, z3, z4, z5]); done) | (exfalso; omega)))); rw [eT]; exact ⟨⟨_, _, _, _, _, _, _, (K46 _ 9 1 _ rfl q41), q45, (K46 _ 9 9 _ rfl (K42 _ 9 9 _ rfl q10)), (K46 _ 9 10 _ rfl (K42 _ 9 10 _ rfl q11)), (K46 _ 9 11 _ rfl (K42 _ 9 11 _ rfl q12)), (K46 _ 9 12 _ rfl (K42 _ 9 12 _ rfl q13)), (K46 _ 9 13 _ rfl (K42 _ 9 13 _ rfl q14)), h50, Im.o h51, Im.o h52⟩, (Or.inr ⟨by first | decide | omega, by omega⟩)⟩)⟩
        · refine mv_iconst (v := 1) d_Reader_isSign_16 (by decide) ?_
          refine mv_goto (tgt := 21) d_Reader_isSign_17 (by decide) ?_
          refine mv_iret d_Reader_isSign_21 rfl (by decide) ?_
          refine mv_if_ne_t (tgt := 88) d_Reader_factor_79 (by decide) (by decide) ?_
          refine mv_aload_n d_Reader_factor_88 rfl rfl ?_
          obtain ⟨_, b59, -⟩ := I0.1 _ _ h_o0
          refine mv_callV (kc' := 0) (ks' := 0) (As := []) (st9 := [.ref o0]) d_Reader_factor_89 lV_Reader_212 b59 rfl (tc_Reader_openBracket_q0_x (d := d) (x9 := x9) (o0 := o0) h_o0 (p := p) hO (by omega) (by first | omega | decide) (hK I0) ⟨_, _, _, _, _, _, _, q8, q9, q10, q11, q12, q13, q14, h15, Im.o h16, Im.o h17⟩ (by omega) (by have := (Im.o h17) (by omega); have := yC.d ps.2.2; have := yC.kn ps.2.2; show p_ki pb pn ps.2.2 ≠ 0; omega) I0.start) rfl (Nat.le_of_ble_eq_true rfl) (Nat.le_of_ble_eq_true rfl) (Nat.le_of_ble_eq_true rfl) (hst := rfl) (fun b53r M54 n55 b53 => ?_)
          obtain ⟨T56, J57, v60, rfl, b61, b62, o63, f64, f65⟩ := b53
          have I58 := I0.call J57 (tm_sub (by decide)) (Or.inl rfl)
          have t66 := J57.up h_o0
          obtain ⟨s67, e68⟩ : ∃ s9 : p_S, p_fl pb pn 4 ps = s9 := ⟨_, rfl⟩
          rw [e68] at f64 f65
          obtain ⟨v69, v70, v71, v72, v73, v74, v75, q76, q77, q78, q79, q80, q81, q82, h83, h84, h85⟩ := f64
          replace h84 := Im.i h84
          replace h85 := Im.i h85
          have := mz_hi v60
          refine mv_if_eqZ (tgt := 102) (a := v60.toInt) d_Reader_factor_92 (by decide) rfl (fun b86 => ?_) (fun b86 => ?_)
          · refine mv_iconst (v := 0) d_Reader_factor_102 (by decide) ?_
            exact mv_iret d_Reader_factor_103 rfl (by decide) ⟨_, I58, _, rfl, by decide, by decide, fun h => absurd h (by decide), (by have := (Im.o h17) (by omega); have := yC.d ps.2.2; have := yC.kn ps.2.2; have hb : s67.1 ≠ 0 := (by omega); have z1 : ∀ c, p_sg pb pn c s67 = s67 := (fun c => p_sg_Z s67 hb); have z2 : ∀ c, p_wd pb pn c s67 = s67 := (fun c => p_wd_Z s67 hb); have z3 : ∀ op, p_sum pb pn pa op s67 = s67 := (fun op => p_sum_Z s67 hb); have z4 : ∀ r oc, p_con pb pn pa r oc s67 = s67 := (fun r oc => p_con_Z s67 hb); have z5 : p_prt pb pn s67 = s67 := p_prt_Z s67 hb; have eT : p_fac pb pn pa (p_op pb pn pa 0) ps = s67 := (by have hop : p_op pb pn pa 0 ps = p_fl pb pn 4 ps := rfl; unfold p_fac; (try simp only [hop]); (try simp only [e68, z1, z2, z3, z4, z5]); ((repeat' (first | (with_reducible rfl) | split)) <;> (first | ((try simp only [e68, z1, z2, z3, z4, z5]); done) | (exfalso; omega)))); rw [eT]; exact ⟨⟨_, _, _, _, _, _, _, q76, q77, q78, q79, q80, q81, q82, h83, Im.o h84, Im.o h85⟩, (Or.inr ⟨by first | decide | omega, by omega⟩)⟩)⟩
          · have := (o63 (by omega)).1
            exfalso
            omega
    · refine mv_aload_n d_Reader_factor_40 rfl rfl ?_
      refine mv_iconst (v := 0) d_Reader_factor_41 (by decide) ?_
      refine mv_aload_n d_Reader_factor_42 rfl rfl ?_
      obtain ⟨v89, q88⟩ := tm_atI I0 h_o0 (k := 15) rfl
      refine tr_getK q88 d_Reader_factor_43 f_Reader_67_9 ?_
      have := tm_rv q88
      have := (hK I0).2.1
      have := (hK I0).2.2.1
      obtain ⟨_, b90, -⟩ := I0.1 _ _ h_o0
      refine mv_callV (kc1 := 0) (ks1 := 0) (kc' := 0) (ks' := 0) (As := [.int 0, .int v89]) (st9 := [.int v89, .int 0, .ref o0]) d_Reader_factor_46 lV_Reader_85 b90 rfl (mj_enter (by decide) (Nat.le_of_ble_eq_true rfl) ?_) rfl (Nat.le_of_ble_eq_true rfl) (Nat.le_of_ble_eq_true rfl) (Nat.le_of_ble_eq_true rfl) (hst := rfl) (fun _ _ _ h => h)
      refine mv_aload_n d_Reader_valueAmong_0 rfl rfl ?_
      refine tr_getK (k := 10) q11 d_Reader_valueAmong_1 f_Reader_41_9 ?_
      refine mv_iconst (v := 1) d_Reader_valueAmong_4 (by decide) ?_
      have := mz_hi v4
      refine mv_icmp_neZ (tgt := 35) (a := v4.toInt) (b := 1) d_Reader_valueAmong_5 (by decide) rfl (by decide) (fun b91 => absurd b91 (by omega)) (fun b91 => ?_)
      refine mv_aload_n d_Reader_valueAmong_8 rfl rfl ?_
      refine tr_getK (k := 13) q14 d_Reader_valueAmong_9 f_Reader_241_9 ?_
      refine mv_iload_n d_Reader_valueAmong_12 rfl rfl ?_
      have := mz_hi v7
      refine mv_icmp_ltZ (tgt := 35) (a := v7.toInt) (b := 0) d_Reader_valueAmong_13 (by decide) rfl (by decide) (fun b92 => ?_) (fun b92 => ?_)
      · refine mv_iconst (v := (-1)) d_Reader_valueAmong_35 (by decide) ?_
        refine mv_iret d_Reader_valueAmong_36 rfl (by first | rfl | decide) ?_
        refine mv_istore_n (lv' := [(1, .int (-1)), (0, .ref o0)]) d_Reader_factor_49 rfl (by decide) rfl ?_
        refine mv_iload_n d_Reader_factor_50 rfl rfl ?_
        refine mv_iconst (v := (-1)) d_Reader_factor_51 (by decide) ?_
        refine mv_icmp_ne_f (tgt := 61) d_Reader_factor_52 (by decide) (by decide) ?_
        refine mv_aload_n d_Reader_factor_55 rfl rfl ?_
        refine mv_iconst (v := 3) d_Reader_factor_56 (by decide) ?_
        obtain ⟨_, b93, -⟩ := I0.1 _ _ h_o0
        refine mv_callV (kc1 := 0) (ks1 := 0) (kc' := 0) (ks' := 0) (As := [.int 3]) (st9 := [.int 3, .ref o0]) d_Reader_factor_57 lV_Reader_56 b93 rfl (mj_enter (by decide) (Nat.le_of_ble_eq_true rfl) ?_) rfl (Nat.le_of_ble_eq_true rfl) (Nat.le_of_ble_eq_true rfl) (Nat.le_of_ble_eq_true rfl) (hst := rfl) (fun _ _ _ h => h)
        refine mv_aload_n d_Reader_refuse_0 rfl rfl ?_
        refine mv_iload_n d_Reader_refuse_1 rfl rfl ?_
        refine tr_putK tm_okF I0 h_o0 (k := 1) rfl ⟨_, rfl⟩ (Or.inl (by decide)) d_Reader_refuse_2 p_Reader_70_9 rfl rfl (fun M94 I95 q96 K97 => ?_)
        refine mv_aload_n d_Reader_refuse_5 rfl rfl ?_
        refine mv_aload_n d_Reader_refuse_6 rfl rfl ?_
        refine tr_getK (k := 11) (K97 _ 9 11 _ rfl q12) d_Reader_refuse_7 f_Reader_175_9 ?_
        refine tr_putK tm_okF I95 h_o0 (k := 2) rfl ⟨_, rfl⟩ (Or.inl (by decide)) d_Reader_refuse_10 p_Reader_11_9 rfl rfl (fun M98 I99 q100 K101 => ?_)
        refine mv_iconst (v := 0) d_Reader_refuse_13 (by decide) ?_
        obtain ⟨s102, e103⟩ : ∃ s9 : p_S, p_fl pb pn 3 ps = s9 := ⟨_, rfl⟩
        have h104 := q_fl e103 (by omega) (by decide)
        have h105 : (3 : Int32).toInt = s102.1 := (by have e9 : (3 : Int32).toInt = 3 := (by decide); omega)
        have h106 : Im (s102.1 ≠ 0 → v5.toInt = (s102.2.1 : Int)) := Im.i (fun _ => by have := (Im.o h17) (by omega); omega)
        have h107 : Im (s102.1 = 0 → v3.toInt = (s102.2.2 : Int) ∧ v4.toInt = p_ki pb pn s102.2.2 ∧ v5.toInt = (p_st pb pn s102.2.2 : Int) ∧ v6.toInt = (p_sp pb pn s102.2.2 : Int) ∧ v7.toInt = p_va pb pn s102.2.2 ∧ v5.toInt = -1) := Im.i (fun z9 => absurd z9 h104.2.2)
        refine mv_iret d_Reader_refuse_14 rfl (by decide) ?_
        exact mv_iret d_Reader_factor_60 rfl (by decide) ⟨_, I99, _, rfl, by decide, by decide, fun h => absurd h (by decide), (by have := (Im.o h17) (by omega); have := yC.d ps.2.2; have := yC.kn ps.2.2; have hb : s102.1 ≠ 0 := (by omega); have z1 : ∀ c, p_sg pb pn c s102 = s102 := (fun c => p_sg_Z s102 hb); have z2 : ∀ c, p_wd pb pn c s102 = s102 := (fun c => p_wd_Z s102 hb); have z3 : ∀ op, p_sum pb pn pa op s102 = s102 := (fun op => p_sum_Z s102 hb); have z4 : ∀ r oc, p_con pb pn pa r oc s102 = s102 := (fun r oc => p_con_Z s102 hb); have z5 : p_prt pb pn s102 = s102 := p_prt_Z s102 hb; have eT : p_fac pb pn pa (p_op pb pn pa 0) ps = s102 := (by have hop : p_op pb pn pa 0 ps = p_fl pb pn 4 ps := rfl; unfold p_fac; (try simp only [hop]); (try simp only [e103, z1, z2, z3, z4, z5]); ((repeat' (first | (with_reducible rfl) | split)) <;> (first | ((try simp only [e103, z1, z2, z3, z4, z5]); done) | (exfalso; omega)))); rw [eT]; exact ⟨⟨_, _, _, _, _, _, _, (K101 _ 9 1 _ rfl q96), q100, (K101 _ 9 9 _ rfl (K97 _ 9 9 _ rfl q10)), (K101 _ 9 10 _ rfl (K97 _ 9 10 _ rfl q11)), (K101 _ 9 11 _ rfl (K97 _ 9 11 _ rfl q12)), (K101 _ 9 12 _ rfl (K97 _ 9 12 _ rfl q13)), (K101 _ 9 13 _ rfl (K97 _ 9 13 _ rfl q14)), h105, Im.o h106, Im.o h107⟩, (Or.inr ⟨by first | decide | omega, by omega⟩)⟩)⟩
      · refine mv_aload_n d_Reader_valueAmong_16 rfl rfl ?_
        refine tr_getK (k := 13) q14 d_Reader_valueAmong_17 f_Reader_241_9 ?_
        refine mv_iload_n d_Reader_valueAmong_20 rfl rfl ?_
        refine mv_iload_n d_Reader_valueAmong_21 rfl rfl ?_
        refine mv_iaddv (v := v89) d_Reader_valueAmong_22 (Int32.zero_add _) ?_
        have := mz_hi v7
        have := mz_hi v89
        refine mv_icmp_geZ (tgt := 35) (a := v7.toInt) (b := v89.toInt) d_Reader_valueAmong_23 (by decide) rfl rfl (fun b108 => ?_) (fun b108 => ?_)
        · refine mv_iconst (v := (-1)) d_Reader_valueAmong_35 (by decide) ?_
          refine mv_iret d_Reader_valueAmong_36 rfl (by first | rfl | decide) ?_
          refine mv_istore_n (lv' := [(1, .int (-1)), (0, .ref o0)]) d_Reader_factor_49 rfl (by decide) rfl ?_
          refine mv_iload_n d_Reader_factor_50 rfl rfl ?_
          refine mv_iconst (v := (-1)) d_Reader_factor_51 (by decide) ?_
          refine mv_icmp_ne_f (tgt := 61) d_Reader_factor_52 (by decide) (by decide) ?_
          refine mv_aload_n d_Reader_factor_55 rfl rfl ?_
          refine mv_iconst (v := 3) d_Reader_factor_56 (by decide) ?_
          obtain ⟨_, b109, -⟩ := I0.1 _ _ h_o0
          refine mv_callV (kc1 := 0) (ks1 := 0) (kc' := 0) (ks' := 0) (As := [.int 3]) (st9 := [.int 3, .ref o0]) d_Reader_factor_57 lV_Reader_56 b109 rfl (mj_enter (by decide) (Nat.le_of_ble_eq_true rfl) ?_) rfl (Nat.le_of_ble_eq_true rfl) (Nat.le_of_ble_eq_true rfl) (Nat.le_of_ble_eq_true rfl) (hst := rfl) (fun _ _ _ h => h)
          refine mv_aload_n d_Reader_refuse_0 rfl rfl ?_
          refine mv_iload_n d_Reader_refuse_1 rfl rfl ?_
          refine tr_putK tm_okF I0 h_o0 (k := 1) rfl ⟨_, rfl⟩ (Or.inl (by decide)) d_Reader_refuse_2 p_Reader_70_9 rfl rfl (fun M110 I111 q112 K113 => ?_)
          refine mv_aload_n d_Reader_refuse_5 rfl rfl ?_
          refine mv_aload_n d_Reader_refuse_6 rfl rfl ?_
          refine tr_getK (k := 11) (K113 _ 9 11 _ rfl q12) d_Reader_refuse_7 f_Reader_175_9 ?_
          refine tr_putK tm_okF I111 h_o0 (k := 2) rfl ⟨_, rfl⟩ (Or.inl (by decide)) d_Reader_refuse_10 p_Reader_11_9 rfl rfl (fun M114 I115 q116 K117 => ?_)
          refine mv_iconst (v := 0) d_Reader_refuse_13 (by decide) ?_
          obtain ⟨s118, e119⟩ : ∃ s9 : p_S, p_fl pb pn 3 ps = s9 := ⟨_, rfl⟩
          have h120 := q_fl e119 (by omega) (by decide)
          have h121 : (3 : Int32).toInt = s118.1 := (by have e9 : (3 : Int32).toInt = 3 := (by decide); omega)
          have h122 : Im (s118.1 ≠ 0 → v5.toInt = (s118.2.1 : Int)) := Im.i (fun _ => by have := (Im.o h17) (by omega); omega)
          have h123 : Im (s118.1 = 0 → v3.toInt = (s118.2.2 : Int) ∧ v4.toInt = p_ki pb pn s118.2.2 ∧ v5.toInt = (p_st pb pn s118.2.2 : Int) ∧ v6.toInt = (p_sp pb pn s118.2.2 : Int) ∧ v7.toInt = p_va pb pn s118.2.2 ∧ v5.toInt = -1) := Im.i (fun z9 => absurd z9 h120.2.2)
          refine mv_iret d_Reader_refuse_14 rfl (by decide) ?_
          exact mv_iret d_Reader_factor_60 rfl (by decide) ⟨_, I115, _, rfl, by decide, by decide, fun h => absurd h (by decide), (by have := (Im.o h17) (by omega); have := yC.d ps.2.2; have := yC.kn ps.2.2; have hb : s118.1 ≠ 0 := (by omega); have z1 : ∀ c, p_sg pb pn c s118 = s118 := (fun c => p_sg_Z s118 hb); have z2 : ∀ c, p_wd pb pn c s118 = s118 := (fun c => p_wd_Z s118 hb); have z3 : ∀ op, p_sum pb pn pa op s118 = s118 := (fun op => p_sum_Z s118 hb); have z4 : ∀ r oc, p_con pb pn pa r oc s118 = s118 := (fun r oc => p_con_Z s118 hb); have z5 : p_prt pb pn s118 = s118 := p_prt_Z s118 hb; have eT : p_fac pb pn pa (p_op pb pn pa 0) ps = s118 := (by have hop : p_op pb pn pa 0 ps = p_fl pb pn 4 ps := rfl; unfold p_fac; (try simp only [hop]); (try simp only [e119, z1, z2, z3, z4, z5]); ((repeat' (first | (with_reducible rfl) | split)) <;> (first | ((try simp only [e119, z1, z2, z3, z4, z5]); done) | (exfalso; omega)))); rw [eT]; exact ⟨⟨_, _, _, _, _, _, _, (K117 _ 9 1 _ rfl q112), q116, (K117 _ 9 9 _ rfl (K113 _ 9 9 _ rfl q10)), (K117 _ 9 10 _ rfl (K113 _ 9 10 _ rfl q11)), (K117 _ 9 11 _ rfl (K113 _ 9 11 _ rfl q12)), (K117 _ 9 12 _ rfl (K113 _ 9 12 _ rfl q13)), (K117 _ 9 13 _ rfl (K113 _ 9 13 _ rfl q14)), h121, Im.o h122, Im.o h123⟩, (Or.inr ⟨by first | decide | omega, by omega⟩)⟩)⟩
        · refine mv_aload_n d_Reader_valueAmong_26 rfl rfl ?_
          refine tr_getK (k := 13) q14 d_Reader_valueAmong_27 f_Reader_241_9 ?_
          refine mv_iload_n d_Reader_valueAmong_30 rfl rfl ?_
          refine mv_isub d_Reader_valueAmong_31 ?_
          refine mv_goto (tgt := 36) d_Reader_valueAmong_32 (by decide) ?_
          refine mv_iret d_Reader_valueAmong_36 rfl (by first | rfl | decide) ?_
          refine mv_istore_n (lv' := [(1, .int (v7 - 0)), (0, .ref o0)]) d_Reader_factor_49 rfl (by decide) rfl ?_
          refine mv_iload_n d_Reader_factor_50 rfl rfl ?_
          refine mv_iconst (v := (-1)) d_Reader_factor_51 (by decide) ?_
          have : ((v7 - 0) : Int32).toInt = v7.toInt - 0 := mz_sub2 rfl (by decide) (by omega) (by omega)
          have := mz_hi (v7 - 0)
          refine mv_icmp_neZ (tgt := 61) (a := (v7 - 0).toInt) (b := (-1)) d_Reader_factor_52 (by decide) rfl (by decide) (fun b124 => ?_) (fun b124 => ?_)
          · refine mv_aload_n d_Reader_factor_61 rfl rfl ?_
            refine mv_iconst (v := 1) d_Reader_factor_62 (by decide) ?_
            refine mv_iload_n d_Reader_factor_63 rfl rfl ?_
            obtain ⟨_, b131, -⟩ := I0.1 _ _ h_o0
            refine mv_callV (kc' := 0) (ks' := 0) (As := [.int 1, .int (v7 - 0)]) (st9 := [.int (v7 - 0), .int 1, .ref o0]) d_Reader_factor_64 lV_Reader_203 b131 rfl (tc_Reader_emit (d := (d + 1)) (x9 := x9) (o0 := o0) (x1 := 1) (x2 := (v7 - 0)) h_o0 I0.start) rfl (Nat.le_of_ble_eq_true rfl) (Nat.le_of_ble_eq_true rfl) (Nat.le_of_ble_eq_true rfl) (hst := rfl) (fun b125r M126 n127 b125 => ?_)
            obtain ⟨T128, J129, rfl⟩ := b125
            have I130 := I0.call J129 (tm_sub (by decide)) (Or.inl rfl)
            have t132 := J129.up h_o0
            have q133 := J129.keep h_o0 (by decide) hO
            have q134 := J129.keep h_o0 (by decide) q8
            have q135 := J129.keep h_o0 (by decide) q9
            have q136 := J129.keep h_o0 (by decide) q10
            have q137 := J129.keep h_o0 (by decide) q11
            have q138 := J129.keep h_o0 (by decide) q12
            have q139 := J129.keep h_o0 (by decide) q13
            have q140 := J129.keep h_o0 (by decide) q14
            have q141 := J129.keep h_o0 (by decide) q88
            refine mv_aload_n d_Reader_factor_67 rfl rfl ?_
            obtain ⟨_, b148, -⟩ := I130.1 _ _ t132
            refine mv_callV (kc' := 0) (ks' := 0) (As := []) (st9 := [.ref o0]) d_Reader_factor_68 lV_Reader_82 b148 rfl (tc_Reader_advance_x (d := (d + 1)) (x9 := x9) (o0 := o0) t132 (hK I130) (qS.a (show qS M126 o0 pb pn ps from ⟨_, _, _, _, _, _, _, q134, q135, q136, q137, q138, q139, q140, h15, Im.o h16, Im.o h17⟩)) (by have := (Im.o h17) (by omega); have := yC.d ps.2.2; have := yC.kn ps.2.2; show ps.2.2 + 1 ≤ 401; omega) I130.start) rfl (Nat.le_of_ble_eq_true rfl) (Nat.le_of_ble_eq_true rfl) (Nat.le_of_ble_eq_true rfl) (hst := rfl) (fun b142r M143 n144 b142 => ?_)
            obtain ⟨T145, J146, rfl, f149⟩ := b142
            have I147 := I130.call J146 (tm_sub (by decide)) (Or.inl rfl)
            have t150 := J146.up t132
            have q151 := J146.keep t132 (by decide) q133
            have q152 := J146.keep t132 (by decide) q134
            have q153 := J146.keep t132 (by decide) q135
            have q154 := J146.keep t132 (by decide) q141
            obtain ⟨s155, e156⟩ : ∃ s9 : p_S, p_nx ps = s9 := ⟨_, rfl⟩
            rw [e156] at f149
            have : s155.1 = 0 := by rw [← e156]; show ps.1 = 0; omega
            obtain ⟨v157, v158, v159, v160, v161, v162, v163, q164, q165, q166, q167, q168, q169, q170, h171, h172, h173⟩ := f149
            replace h172 := Im.i h172
            replace h173 := Im.i h173
            refine mv_iconst (v := 1) d_Reader_factor_71 (by decide) ?_
            exact mv_iret d_Reader_factor_72 rfl (by decide) ⟨_, I147, _, rfl, by decide, by decide, fun _ => q151, (by have := (Im.o h17) (by omega); have := yC.d ps.2.2; have := yC.kn ps.2.2; have eT : p_fac pb pn pa (p_op pb pn pa 0) ps = s155 := (by have hop : p_op pb pn pa 0 ps = p_fl pb pn 4 ps := rfl; unfold p_fac; (try simp only [hop]); (try simp only [e156]); ((repeat' (first | (with_reducible rfl) | split)) <;> (first | ((try simp only [e156]); done) | (exfalso; omega)))); rw [eT]; exact ⟨⟨_, _, _, _, _, _, _, q164, q165, q166, q167, q168, q169, q170, h171, Im.o h172, Im.o h173⟩, (Or.inl ⟨by first | decide | omega, by omega⟩)⟩)⟩
          · refine mv_aload_n d_Reader_factor_55 rfl rfl ?_
            refine mv_iconst (v := 3) d_Reader_factor_56 (by decide) ?_
            obtain ⟨_, b174, -⟩ := I0.1 _ _ h_o0
            refine mv_callV (kc1 := 0) (ks1 := 0) (kc' := 0) (ks' := 0) (As := [.int 3]) (st9 := [.int 3, .ref o0]) d_Reader_factor_57 lV_Reader_56 b174 rfl (mj_enter (by decide) (Nat.le_of_ble_eq_true rfl) ?_) rfl (Nat.le_of_ble_eq_true rfl) (Nat.le_of_ble_eq_true rfl) (Nat.le_of_ble_eq_true rfl) (hst := rfl) (fun _ _ _ h => h)
            refine mv_aload_n d_Reader_refuse_0 rfl rfl ?_
            refine mv_iload_n d_Reader_refuse_1 rfl rfl ?_
            refine tr_putK tm_okF I0 h_o0 (k := 1) rfl ⟨_, rfl⟩ (Or.inl (by decide)) d_Reader_refuse_2 p_Reader_70_9 rfl rfl (fun M175 I176 q177 K178 => ?_)
            refine mv_aload_n d_Reader_refuse_5 rfl rfl ?_
            refine mv_aload_n d_Reader_refuse_6 rfl rfl ?_
            refine tr_getK (k := 11) (K178 _ 9 11 _ rfl q12) d_Reader_refuse_7 f_Reader_175_9 ?_
            refine tr_putK tm_okF I176 h_o0 (k := 2) rfl ⟨_, rfl⟩ (Or.inl (by decide)) d_Reader_refuse_10 p_Reader_11_9 rfl rfl (fun M179 I180 q181 K182 => ?_)
            refine mv_iconst (v := 0) d_Reader_refuse_13 (by decide) ?_
            obtain ⟨s183, e184⟩ : ∃ s9 : p_S, p_fl pb pn 3 ps = s9 := ⟨_, rfl⟩
            have h185 := q_fl e184 (by omega) (by decide)
            have h186 : (3 : Int32).toInt = s183.1 := (by have e9 : (3 : Int32).toInt = 3 := (by decide); omega)
            have h187 : Im (s183.1 ≠ 0 → v5.toInt = (s183.2.1 : Int)) := Im.i (fun _ => by have := (Im.o h17) (by omega); omega)
            have h188 : Im (s183.1 = 0 → v3.toInt = (s183.2.2 : Int) ∧ v4.toInt = p_ki pb pn s183.2.2 ∧ v5.toInt = (p_st pb pn s183.2.2 : Int) ∧ v6.toInt = (p_sp pb pn s183.2.2 : Int) ∧ v7.toInt = p_va pb pn s183.2.2 ∧ v5.toInt = -1) := Im.i (fun z9 => absurd z9 h185.2.2)
            refine mv_iret d_Reader_refuse_14 rfl (by decide) ?_
            exact mv_iret d_Reader_factor_60 rfl (by decide) ⟨_, I180, _, rfl, by decide, by decide, fun h => absurd h (by decide), (by have := (Im.o h17) (by omega); have := yC.d ps.2.2; have := yC.kn ps.2.2; have hb : s183.1 ≠ 0 := (by omega); have z1 : ∀ c, p_sg pb pn c s183 = s183 := (fun c => p_sg_Z s183 hb); have z2 : ∀ c, p_wd pb pn c s183 = s183 := (fun c => p_wd_Z s183 hb); have z3 : ∀ op, p_sum pb pn pa op s183 = s183 := (fun op => p_sum_Z s183 hb); have z4 : ∀ r oc, p_con pb pn pa r oc s183 = s183 := (fun r oc => p_con_Z s183 hb); have z5 : p_prt pb pn s183 = s183 := p_prt_Z s183 hb; have eT : p_fac pb pn pa (p_op pb pn pa 0) ps = s183 := (by have hop : p_op pb pn pa 0 ps = p_fl pb pn 4 ps := rfl; unfold p_fac; (try simp only [hop]); (try simp only [e184, z1, z2, z3, z4, z5]); ((repeat' (first | (with_reducible rfl) | split)) <;> (first | ((try simp only [e184, z1, z2, z3, z4, z5]); done) | (exfalso; omega)))); rw [eT]; exact ⟨⟨_, _, _, _, _, _, _, (K182 _ 9 1 _ rfl q177), q181, (K182 _ 9 9 _ rfl (K178 _ 9 9 _ rfl q10)), (K182 _ 9 10 _ rfl (K178 _ 9 10 _ rfl q11)), (K182 _ 9 11 _ rfl (K178 _ 9 11 _ rfl q12)), (K182 _ 9 12 _ rfl (K178 _ 9 12 _ rfl q13)), (K182 _ 9 13 _ rfl (K178 _ 9 13 _ rfl q14)), h186, Im.o h187, Im.o h188⟩, (Or.inr ⟨by first | decide | omega, by omega⟩)⟩)⟩
  · refine mv_aload_n d_Reader_factor_8 rfl rfl ?_
    refine mv_iconst (v := 0) d_Reader_factor_9 (by decide) ?_
    refine mv_sipush (v := 9999) d_Reader_factor_10 (by decide) ?_
    obtain ⟨_, b195, -⟩ := I0.1 _ _ h_o0
    refine mv_callV (kc' := 0) (ks' := 0) (As := [.int 0, .int 9999]) (st9 := [.int 9999, .int 0, .ref o0]) d_Reader_factor_13 lV_Reader_107 b195 rfl (tc_Reader_numeral_x (d := d) (x9 := x9) (o0 := o0) (x1 := 0) (x2 := 9999) h_o0 (hK I0) ⟨_, _, _, _, _, _, _, q8, q9, q10, q11, q12, q13, q14, h15, Im.o h16, Im.o h17⟩ (by omega) I0.start) rfl (Nat.le_of_ble_eq_true rfl) (Nat.le_of_ble_eq_true rfl) (Nat.le_of_ble_eq_true rfl) (hst := rfl) (fun b189r M190 n191 b189 => ?_)
    obtain ⟨T192, J193, v196, rfl, b197, b198, f199, f200, f201⟩ := b189
    have I194 := I0.call J193 (tm_sub (by decide)) (Or.inl rfl)
    have t202 := J193.up h_o0
    have q203 := J193.keep h_o0 (by decide) hO
    rw [show (0 : Int32).toInt = 0 from by decide] at f199 f200
    rw [show (9999 : Int32).toInt = 9999 from by decide] at f199 f200
    obtain ⟨s204, e205⟩ : ∃ s9 : p_S, p_num pb pn 0 9999 ps = s9 := ⟨_, rfl⟩
    rw [e205] at f199 f200
    replace e205 := (p_num_99 (b := pb) (n := pn) (s := ps) (by omega)).symm.trans e205
    obtain ⟨v206, v207, v208, v209, v210, v211, v212, q213, q214, q215, q216, q217, q218, q219, h220, h221, h222⟩ := f199
    replace h221 := Im.i h221
    replace h222 := Im.i h222
    obtain ⟨v223, q224, h225⟩ := f201
    have := mz_hi v196
    refine mv_if_neZ (tgt := 21) (a := v196.toInt) d_Reader_factor_16 (by decide) rfl (fun b226 => ?_) (fun b226 => ?_)
    · refine mv_aload_n d_Reader_factor_21 rfl rfl ?_
      refine mv_iconst (v := 0) d_Reader_factor_22 (by decide) ?_
      refine mv_aload_n d_Reader_factor_23 rfl rfl ?_
      refine tr_getK (k := 14) q224 d_Reader_factor_24 f_Reader_111_9 ?_
      obtain ⟨_, b233, -⟩ := I194.1 _ _ t202
      refine mv_callV (kc' := 0) (ks' := 0) (As := [.int 0, .int v223]) (st9 := [.int v223, .int 0, .ref o0]) d_Reader_factor_27 lV_Reader_203 b233 rfl (tc_Reader_emit (d := (d + 1)) (x9 := x9) (o0 := o0) (x1 := 0) (x2 := v223) t202 I194.start) rfl (Nat.le_of_ble_eq_true rfl) (Nat.le_of_ble_eq_true rfl) (Nat.le_of_ble_eq_true rfl) (hst := rfl) (fun b227r M228 n229 b227 => ?_)
      obtain ⟨T230, J231, rfl⟩ := b227
      have I232 := I194.call J231 (tm_sub (by decide)) (Or.inl rfl)
      have t234 := J231.up t202
      have q235 := J231.keep t202 (by decide) q203
      have q236 := J231.keep (I194.up h_o0) (by decide) q213
      have q237 := J231.keep (I194.up h_o0) (by decide) q214
      have q238 := J231.keep (I194.up h_o0) (by decide) q215
      have q239 := J231.keep (I194.up h_o0) (by decide) q216
      have q240 := J231.keep (I194.up h_o0) (by decide) q217
      have q241 := J231.keep (I194.up h_o0) (by decide) q218
      have q242 := J231.keep (I194.up h_o0) (by decide) q219
      have q243 := J231.keep (I194.up h_o0) (by decide) q224
      refine mv_iconst (v := 1) d_Reader_factor_30 (by decide) ?_
      exact mv_iret d_Reader_factor_31 rfl (by decide) ⟨_, I232, _, rfl, by decide, by decide, fun _ => q235, (by have := (Im.o h17) (by omega); have := yC.d ps.2.2; have := yC.kn ps.2.2; have eT : p_fac pb pn pa (p_op pb pn pa 0) ps = s204 := (by have hop : p_op pb pn pa 0 ps = p_fl pb pn 4 ps := rfl; unfold p_fac; (try simp only [hop]); (try simp only [e205]); ((repeat' (first | (with_reducible rfl) | split)) <;> (first | ((try simp only [e205]); done) | (exfalso; omega)))); rw [eT]; exact ⟨⟨_, _, _, _, _, _, _, q236, q237, q238, q239, q240, q241, q242, h220, Im.o h221, Im.o h222⟩, (Or.inl ⟨by first | decide | omega, by omega⟩)⟩)⟩
    · refine mv_iconst (v := 0) d_Reader_factor_19 (by decide) ?_
      exact mv_iret d_Reader_factor_20 rfl (by decide) ⟨_, I194, _, rfl, by decide, by decide, fun h => absurd h (by decide), (by have := (Im.o h17) (by omega); have := yC.d ps.2.2; have := yC.kn ps.2.2; have hb : s204.1 ≠ 0 := (by omega); have z1 : ∀ c, p_sg pb pn c s204 = s204 := (fun c => p_sg_Z s204 hb); have z2 : ∀ c, p_wd pb pn c s204 = s204 := (fun c => p_wd_Z s204 hb); have z3 : ∀ op, p_sum pb pn pa op s204 = s204 := (fun op => p_sum_Z s204 hb); have z4 : ∀ r oc, p_con pb pn pa r oc s204 = s204 := (fun r oc => p_con_Z s204 hb); have z5 : p_prt pb pn s204 = s204 := p_prt_Z s204 hb; have eT : p_fac pb pn pa (p_op pb pn pa 0) ps = s204 := (by have hop : p_op pb pn pa 0 ps = p_fl pb pn 4 ps := rfl; unfold p_fac; (try simp only [hop]); (try simp only [e205, z1, z2, z3, z4, z5]); ((repeat' (first | (with_reducible rfl) | split)) <;> (first | ((try simp only [e205, z1, z2, z3, z4, z5]); done) | (exfalso; omega)))); rw [eT]; exact ⟨⟨_, _, _, _, _, _, _, q213, q214, q215, q216, q217, q218, q219, h220, Im.o h221, Im.o h222⟩, (Or.inr ⟨by first | decide | omega, by omega⟩)⟩)⟩
def w_Reader_product_q0_x : List Nat := [901, 902, 909, 910, 911, 912, 913, 914, 916, 918, 967]
set_option maxHeartbeats 100000000 in theorem tc_Reader_product_q0_x {g : mj_G} {l : Launch} {d : Nat} {T0 : tm_H} {M0 : mj_M} {n0 x9 : Nat} {o0 : Nat} (h_o0 : T0 o0 = some (0, 9, 0)) {p : Int32} (hO : tm_at M0 o0 9 16 (.int p)) (hp : 4 ≤ p.toInt)  (hp2 : p.toInt ≤ 4) {pb : Nat → Int} {pn : Nat} {pa : Int} {ps : p_S} (yC : qC M0 o0 pb pn pa) (yD : qS M0 o0 pb pn ps) (yw : ps.1 = 0) (I0 : tm_I tm_FT (tm_in w_Reader_product_q0_x) x9 T0 M0 n0 T0 M0 n0) : mj_Met g l kY_Reader_product (d + 3) [.ref o0] M0 n0 0 0 (tm_Q tm_FT (tm_in w_Reader_product_q0_x) x9 T0 M0 n0 (fun r _ M => ∃ v : Int32, r = some (.int v) ∧ 0 ≤ v.toInt ∧ v.toInt ≤ 1 ∧ (v.toInt = 1 → tm_at M o0 9 16 (.int p)) ∧ (qS M o0 pb pn (p_pro pb pn pa (p_op pb pn pa 0) ps)) ∧ (v.toInt = 1 ∧ (p_pro pb pn pa (p_op pb pn pa 0) ps).1 = 0 ∨ v.toInt = 0 ∧ (p_pro pb pn pa (p_op pb pn pa 0) ps).1 ≠ 0))) := by
  refine mj_enter (by decide) (Nat.le_of_ble_eq_true rfl) ?_
  have hK : ∀ {T : tm_H} {M : mj_M} {n : Nat}, tm_I tm_FT (tm_in w_Reader_product_q0_x) x9 T0 M0 n0 T M n → qC M o0 pb pn pa := fun I => yC.keep I0.1 I h_o0 (qW_of (by decide +kernel))
  obtain ⟨v1, v2, v3, v4, v5, v6, v7, q8, q9, q10, q11, q12, q13, q14, h15, h16, h17⟩ := yD
  replace h16 := Im.i h16
  replace h17 := Im.i h17
  refine mv_aload_n d_Reader_product_0 rfl rfl ?_
  obtain ⟨_, b24, -⟩ := I0.1 _ _ h_o0
  refine mv_callV (kc' := 0) (ks' := 0) (As := []) (st9 := [.ref o0]) d_Reader_product_1 lV_Reader_221 b24 rfl (tc_Reader_factor_q0_x (d := d) (x9 := x9) (o0 := o0) h_o0 (p := p) hO (by omega) (by first | omega | decide) (hK I0) ⟨_, _, _, _, _, _, _, q8, q9, q10, q11, q12, q13, q14, h15, Im.o h16, Im.o h17⟩ (by omega) I0.start) rfl (Nat.le_of_ble_eq_true rfl) (Nat.le_of_ble_eq_true rfl) (Nat.le_of_ble_eq_true rfl) (hst := rfl) (fun b18r M19 n20 b18 => ?_)
  obtain ⟨T21, J22, v25, rfl, b26, b27, o28, f29, f30⟩ := b18
  have I23 := I0.call J22 (tm_sub (by decide)) (Or.inl rfl)
  have t31 := J22.up h_o0
  obtain ⟨s32, e33⟩ : ∃ s9 : p_S, p_fac pb pn pa (p_op pb pn pa 0) ps = s9 := ⟨_, rfl⟩
  rw [e33] at f29 f30
  obtain ⟨v34, v35, v36, v37, v38, v39, v40, q41, q42, q43, q44, q45, q46, q47, h48, h49, h50⟩ := f29
  replace h49 := Im.i h49
  replace h50 := Im.i h50
  have := mz_hi v25
  refine mv_if_neZ (tgt := 9) (a := v25.toInt) d_Reader_product_4 (by decide) rfl (fun b51 => ?_) (fun b51 => ?_)
  · have q52 := o28 (by omega)
    refine mv_iconst (v := 0) d_Reader_product_9 (by decide) ?_
    refine mv_istore_n (lv' := [(1, .int 0), (0, .ref o0)]) d_Reader_product_10 rfl (by decide) rfl ?_
    have L11_53 : ∀ (k : Nat) (i1_53 : Int32) (T_53 : tm_H) (M_53 : mj_M) (n_53 : Nat), tm_I tm_FT (tm_in w_Reader_product_q0_x) x9 T0 M0 n0 T_53 M_53 n_53 → T_53 o0 = some (0, 9, 0) → 0 ≤ i1_53.toInt → tm_at M_53 o0 9 16 (.int p) → (∃ s1 : p_S, qS M_53 o0 pb pn s1 ∧ s1.1 = 0 ∧ i1_53.toInt ≤ (s1.2.2 : Int) ∧ p_lp pn (p_pr1 pb pn pa (p_op pb pn pa 0)) s1 = p_pro pb pn pa (p_op pb pn pa 0) ps) → 2147483647 - i1_53.toInt < (k : Int) → mj_V g l kY_Reader_product (d + 3) 11 [(1, .int i1_53), (0, .ref o0)] [] M_53 n_53 0 0 (tm_Q tm_FT (tm_in w_Reader_product_q0_x) x9 T0 M0 n0 (fun r _ M => ∃ v : Int32, r = some (.int v) ∧ 0 ≤ v.toInt ∧ v.toInt ≤ 1 ∧ (v.toInt = 1 → tm_at M o0 9 16 (.int p)) ∧ (qS M o0 pb pn (p_pro pb pn pa (p_op pb pn pa 0) ps)) ∧ (v.toInt = 1 ∧ (p_pro pb pn pa (p_op pb pn pa 0) ps).1 = 0 ∨ v.toInt = 0 ∧ (p_pro pb pn pa (p_op pb pn pa 0) ps).1 ≠ 0))) := by
      intro k53
      induction k53 with
      | zero =>
        intro i1_53 T_53 M_53 n_53 I_53 h_q0_53 iv0_53 kp0_53 kKT9_53 hk53
        have := mz_hi i1_53
        omega
      | succ k53 ih53 =>
        intro i1_53 T_53 M_53 n_53 I_53 h_q0_53 iv0_53 kp0_53 kKT9_53 hk53
        obtain ⟨s54, f55, h56, h57, e58⟩ := kKT9_53
        obtain ⟨v59, v60, v61, v62, v63, v64, v65, q66, q67, q68, q69, q70, q71, q72, h73, h74, h75⟩ := f55
        replace h74 := Im.i h74
        replace h75 := Im.i h75
        refine mv_iload_n d_Reader_product_11 rfl rfl ?_
        refine mv_sipush (v := 400) d_Reader_product_12 (by decide) ?_
        have := mz_hi i1_53
        refine mv_icmp_geZ (tgt := 52) (a := i1_53.toInt) (b := 400) d_Reader_product_15 (by decide) rfl (by decide) (fun b76 => ?_) (fun b76 => ?_)
        · refine mv_iconst (v := 1) d_Reader_product_52 (by decide) ?_
          exact mv_iret d_Reader_product_53 rfl (by decide) ⟨_, I_53, _, rfl, by decide, by decide, fun _ => kp0_53, (by have := (Im.o h75) (by omega); have := yC.d s54.2.2; have := yC.kn s54.2.2; have hX := e58.symm.trans (p_lp_stop (show (p_pr1 pb pn pa (p_op pb pn pa 0)) s54 = s54 from if_neg (fun h9 => by omega))); have eT : p_pro pb pn pa (p_op pb pn pa 0) ps = s54 := (by exact hX); rw [eT]; exact ⟨⟨_, _, _, _, _, _, _, q66, q67, q68, q69, q70, q71, q72, h73, Im.o h74, Im.o h75⟩, (Or.inl ⟨by first | decide | omega, by omega⟩)⟩)⟩
        · refine mv_aload_n d_Reader_product_18 rfl rfl ?_
          refine mv_bipush (v := 42) d_Reader_product_19 (by decide) ?_
          obtain ⟨_, b77, -⟩ := I_53.1 _ _ h_q0_53
          refine mv_callV (kc1 := 0) (ks1 := 0) (kc' := 0) (ks' := 0) (As := [.int 42]) (st9 := [.int 42, .ref o0]) d_Reader_product_21 lV_Reader_209 b77 rfl (mj_enter (by decide) (Nat.le_of_ble_eq_true rfl) ?_) rfl (Nat.le_of_ble_eq_true rfl) (Nat.le_of_ble_eq_true rfl) (Nat.le_of_ble_eq_true rfl) (hst := rfl) (fun _ _ _ h => h)
          refine mv_aload_n d_Reader_isSign_0 rfl rfl ?_
          refine tr_getK (k := 10) q69 d_Reader_isSign_1 f_Reader_41_9 ?_
          refine mv_iconst (v := 3) d_Reader_isSign_4 (by decide) ?_
          have := mz_hi v62
          refine mv_icmp_neZ (tgt := 20) (a := v62.toInt) (b := 3) d_Reader_isSign_5 (by decide) rfl (by decide) (fun b78 => ?_) (fun b78 => ?_)
          · refine mv_iconst (v := 0) d_Reader_isSign_20 (by decide) ?_
            refine mv_iret d_Reader_isSign_21 rfl (by decide) ?_
            refine mv_if_eq_t (tgt := 52) d_Reader_product_24 (by decide) (by decide) ?_
            refine mv_iconst (v := 1) d_Reader_product_52 (by decide) ?_
            exact mv_iret d_Reader_product_53 rfl (by decide) ⟨_, I_53, _, rfl, by decide, by decide, fun _ => kp0_53, (by have := (Im.o h75) (by omega); have := yC.d s54.2.2; have := yC.kn s54.2.2; have hX := e58.symm.trans (p_lp_stop (show (p_pr1 pb pn pa (p_op pb pn pa 0)) s54 = s54 from if_neg (fun h9 => by omega))); have eT : p_pro pb pn pa (p_op pb pn pa 0) ps = s54 := (by exact hX); rw [eT]; exact ⟨⟨_, _, _, _, _, _, _, q66, q67, q68, q69, q70, q71, q72, h73, Im.o h74, Im.o h75⟩, (Or.inl ⟨by first | decide | omega, by omega⟩)⟩)⟩
          · refine mv_aload_n d_Reader_isSign_8 rfl rfl ?_
            refine tr_getK (k := 13) q72 d_Reader_isSign_9 f_Reader_241_9 ?_
            refine mv_iload_n d_Reader_isSign_12 rfl rfl ?_
            have := mz_hi v65
            refine mv_icmp_neZ (tgt := 20) (a := v65.toInt) (b := 42) d_Reader_isSign_13 (by decide) rfl (by decide) (fun b79 => ?_) (fun b79 => ?_)
            · refine mv_iconst (v := 0) d_Reader_isSign_20 (by decide) ?_
              refine mv_iret d_Reader_isSign_21 rfl (by decide) ?_
              refine mv_if_eq_t (tgt := 52) d_Reader_product_24 (by decide) (by decide) ?_
              refine mv_iconst (v := 1) d_Reader_product_52 (by decide) ?_
              exact mv_iret d_Reader_product_53 rfl (by decide) ⟨_, I_53, _, rfl, by decide, by decide, fun _ => kp0_53, (by have := (Im.o h75) (by omega); have := yC.d s54.2.2; have := yC.kn s54.2.2; have hX := e58.symm.trans (p_lp_stop (show (p_pr1 pb pn pa (p_op pb pn pa 0)) s54 = s54 from if_neg (fun h9 => by omega))); have eT : p_pro pb pn pa (p_op pb pn pa 0) ps = s54 := (by exact hX); rw [eT]; exact ⟨⟨_, _, _, _, _, _, _, q66, q67, q68, q69, q70, q71, q72, h73, Im.o h74, Im.o h75⟩, (Or.inl ⟨by first | decide | omega, by omega⟩)⟩)⟩
            · refine mv_iconst (v := 1) d_Reader_isSign_16 (by decide) ?_
              refine mv_goto (tgt := 21) d_Reader_isSign_17 (by decide) ?_
              refine mv_iret d_Reader_isSign_21 rfl (by decide) ?_
              refine mv_if_eq_f (tgt := 52) d_Reader_product_24 (by decide) (by decide) ?_
              refine mv_aload_n d_Reader_product_27 rfl rfl ?_
              obtain ⟨_, b86, -⟩ := I_53.1 _ _ h_q0_53
              refine mv_callV (kc' := 0) (ks' := 0) (As := []) (st9 := [.ref o0]) d_Reader_product_28 lV_Reader_82 b86 rfl (tc_Reader_advance_x (d := (d + 2)) (x9 := x9) (o0 := o0) h_q0_53 (hK I_53) (qS.a (show qS M_53 o0 pb pn s54 from ⟨_, _, _, _, _, _, _, q66, q67, q68, q69, q70, q71, q72, h73, Im.o h74, Im.o h75⟩)) (by have := (Im.o h75) (by omega); have := yC.d s54.2.2; have := yC.kn s54.2.2; show s54.2.2 + 1 ≤ 401; omega) I_53.start) rfl (Nat.le_of_ble_eq_true rfl) (Nat.le_of_ble_eq_true rfl) (Nat.le_of_ble_eq_true rfl) (hst := rfl) (fun b80r M81 n82 b80 => ?_)
              obtain ⟨T83, J84, rfl, f87⟩ := b80
              have I85 := I_53.call J84 (tm_sub (by decide)) (Or.inl rfl)
              have t88 := J84.up h_q0_53
              have q89 := J84.keep h_q0_53 (by decide) kp0_53
              have q90 := J84.keep h_q0_53 (by decide) q66
              have q91 := J84.keep h_q0_53 (by decide) q67
              obtain ⟨s92, e93⟩ : ∃ s9 : p_S, p_nx s54 = s9 := ⟨_, rfl⟩
              rw [e93] at f87
              have : s92.1 = 0 := by rw [← e93]; show s54.1 = 0; omega
              obtain ⟨v94, v95, v96, v97, v98, v99, v100, q101, q102, q103, q104, q105, q106, q107, h108, h109, h110⟩ := f87
              replace h109 := Im.i h109
              replace h110 := Im.i h110
              refine mv_aload_n d_Reader_product_31 rfl rfl ?_
              obtain ⟨_, b117, -⟩ := I85.1 _ _ t88
              refine mv_callV (kc' := 0) (ks' := 0) (As := []) (st9 := [.ref o0]) d_Reader_product_32 lV_Reader_221 b117 rfl (tc_Reader_factor_q0_x (d := d) (x9 := x9) (o0 := o0) t88 (p := p) q89 (by omega) (by first | omega | decide) (hK I85) ⟨_, _, _, _, _, _, _, q101, q102, q103, q104, q105, q106, q107, h108, Im.o h109, Im.o h110⟩ (by omega) I85.start) rfl (Nat.le_of_ble_eq_true rfl) (Nat.le_of_ble_eq_true rfl) (Nat.le_of_ble_eq_true rfl) (hst := rfl) (fun b111r M112 n113 b111 => ?_)
              obtain ⟨T114, J115, v118, rfl, b119, b120, o121, f122, f123⟩ := b111
              have I116 := I85.call J115 (tm_sub (by decide)) (Or.inl rfl)
              have t124 := J115.up t88
              obtain ⟨s125, e126⟩ : ∃ s9 : p_S, p_fac pb pn pa (p_op pb pn pa 0) s92 = s9 := ⟨_, rfl⟩
              rw [e126] at f122 f123
              obtain ⟨v127, v128, v129, v130, v131, v132, v133, q134, q135, q136, q137, q138, q139, q140, h141, h142, h143⟩ := f122
              replace h142 := Im.i h142
              replace h143 := Im.i h143
              have := mz_hi v118
              refine mv_if_neZ (tgt := 40) (a := v118.toInt) d_Reader_product_35 (by decide) rfl (fun b144 => ?_) (fun b144 => ?_)
              · have q145 := o121 (by omega)
                refine mv_aload_n d_Reader_product_40 rfl rfl ?_
                refine mv_iconst (v := 4) d_Reader_product_41 (by decide) ?_
                refine mv_iconst (v := 0) d_Reader_product_42 (by decide) ?_
                obtain ⟨_, b152, -⟩ := I116.1 _ _ t124
                refine mv_callV (kc' := 0) (ks' := 0) (As := [.int 4, .int 0]) (st9 := [.int 0, .int 4, .ref o0]) d_Reader_product_43 lV_Reader_203 b152 rfl (tc_Reader_emit (d := (d + 2)) (x9 := x9) (o0 := o0) (x1 := 4) (x2 := 0) t124 I116.start) rfl (Nat.le_of_ble_eq_true rfl) (Nat.le_of_ble_eq_true rfl) (Nat.le_of_ble_eq_true rfl) (hst := rfl) (fun b146r M147 n148 b146 => ?_)
                obtain ⟨T149, J150, rfl⟩ := b146
                have I151 := I116.call J150 (tm_sub (by decide)) (Or.inl rfl)
                have t153 := J150.up t124
                have q154 := J150.keep (I116.up h_o0) (by decide) q134
                have q155 := J150.keep (I116.up h_o0) (by decide) q135
                have q156 := J150.keep (I116.up h_o0) (by decide) q136
                have q157 := J150.keep (I116.up h_o0) (by decide) q137
                have q158 := J150.keep (I116.up h_o0) (by decide) q138
                have q159 := J150.keep (I116.up h_o0) (by decide) q139
                have q160 := J150.keep (I116.up h_o0) (by decide) q140
                have q161 := J150.keep t124 (by decide) q145
                refine mv_iinc (v := (i1_53 + 1)) (lv' := [(1, .int (i1_53 + 1)), (0, .ref o0)]) d_Reader_product_46 rfl rfl (by decide) rfl ?_
                refine mv_goto (tgt := 11) d_Reader_product_49 (by decide) ?_
                have : (i1_53 + 1 : Int32).toInt = i1_53.toInt + 1 := mz_addn 1 1 (by decide) (by omega) (by omega)
                have T162 : ∃ s1 : p_S, qS M147 o0 pb pn s1 ∧ s1.1 = 0 ∧ (i1_53 + 1).toInt ≤ (s1.2.2 : Int) ∧ p_lp pn (p_pr1 pb pn pa (p_op pb pn pa 0)) s1 = p_pro pb pn pa (p_op pb pn pa 0) ps := ⟨s125, ⟨_, _, _, _, _, _, _, q154, q155, q156, q157, q158, q159, q160, h141, Im.o h142, Im.o h143⟩, by omega, (by have h9 : s54.2.2 + 1 ≤ s125.2.2 := (by rw [← e126, ← e93]; exact p_fac_M (p_op_M _) (p_nx s54)); omega), (by have := (Im.o h75) (by omega); have := yC.d s54.2.2; have := yC.kn s54.2.2; have st : (p_pr1 pb pn pa (p_op pb pn pa 0)) s54 = s125 := (by rw [show (p_pr1 pb pn pa (p_op pb pn pa 0)) s54 = p_fac pb pn pa (p_op pb pn pa 0) (p_nx s54) from if_pos ⟨by omega, by omega⟩]; simp only [e93, e126]); rw [← st, p_P.go (p_pr1_P (p_op_M _)) s54]; exact e58)⟩
                have b163 : (i1_53 + 1).toInt = i1_53.toInt + 1 := mz_addn 1 1 (by decide) (by have := mz_lo i1_53; omega) (by have := mz_hi i1_53; omega)
                exact (ih53 (i1_53 + 1) T149 M147 n148 I151 t153 (by first | omega | decide) q161 T162 (by omega))
              · refine mv_iconst (v := 0) d_Reader_product_38 (by decide) ?_
                exact mv_iret d_Reader_product_39 rfl (by decide) ⟨_, I116, _, rfl, by decide, by decide, fun h => absurd h (by decide), (by have := (Im.o h75) (by omega); have := yC.d s54.2.2; have := yC.kn s54.2.2; have hb : s125.1 ≠ 0 := (by omega); have z1 : ∀ c, p_sg pb pn c s125 = s125 := (fun c => p_sg_Z s125 hb); have z2 : ∀ c, p_wd pb pn c s125 = s125 := (fun c => p_wd_Z s125 hb); have z3 : ∀ op, p_sum pb pn pa op s125 = s125 := (fun op => p_sum_Z s125 hb); have z4 : ∀ r oc, p_con pb pn pa r oc s125 = s125 := (fun r oc => p_con_Z s125 hb); have z5 : p_prt pb pn s125 = s125 := p_prt_Z s125 hb; have st : (p_pr1 pb pn pa (p_op pb pn pa 0)) s54 = s125 := (by rw [show (p_pr1 pb pn pa (p_op pb pn pa 0)) s54 = p_fac pb pn pa (p_op pb pn pa 0) (p_nx s54) from if_pos ⟨by omega, by omega⟩]; simp only [e93, e126]); have eT : p_pro pb pn pa (p_op pb pn pa 0) ps = s125 := (by rw [← e58, ← p_P.go (p_pr1_P (p_op_M _)) s54, st]; exact p_lp_stop (p_pr1_Z s125 hb)); rw [eT]; exact ⟨⟨_, _, _, _, _, _, _, q134, q135, q136, q137, q138, q139, q140, h141, Im.o h142, Im.o h143⟩, (Or.inr ⟨by first | decide | omega, by omega⟩)⟩)⟩
    have T164 : ∃ s1 : p_S, qS M19 o0 pb pn s1 ∧ s1.1 = 0 ∧ 0 ≤ (s1.2.2 : Int) ∧ p_lp pn (p_pr1 pb pn pa (p_op pb pn pa 0)) s1 = p_pro pb pn pa (p_op pb pn pa 0) ps := ⟨s32, ⟨_, _, _, _, _, _, _, q41, q42, q43, q44, q45, q46, q47, h48, Im.o h49, Im.o h50⟩, by omega, (by show (0 : Int) ≤ _; omega), (by rw [← e33]; rfl)⟩
    exact mv_less (Nat.zero_le _) (Nat.zero_le _) (L11_53 4294967296 0 T21 M19 n20 I23 t31 (by first | omega | decide) q52 T164 (by show (2147483647 - (0 : Int) : Int) < _; decide))
  · refine mv_iconst (v := 0) d_Reader_product_7 (by decide) ?_
    exact mv_iret d_Reader_product_8 rfl (by decide) ⟨_, I23, _, rfl, by decide, by decide, fun h => absurd h (by decide), (by have hb : s32.1 ≠ 0 := (by omega); have z1 : ∀ c, p_sg pb pn c s32 = s32 := (fun c => p_sg_Z s32 hb); have z2 : ∀ c, p_wd pb pn c s32 = s32 := (fun c => p_wd_Z s32 hb); have z3 : ∀ op, p_sum pb pn pa op s32 = s32 := (fun op => p_sum_Z s32 hb); have z4 : ∀ r oc, p_con pb pn pa r oc s32 = s32 := (fun r oc => p_con_Z s32 hb); have z5 : p_prt pb pn s32 = s32 := p_prt_Z s32 hb; have eT : p_pro pb pn pa (p_op pb pn pa 0) ps = s32 := (by unfold p_pro; simp only [e33]; exact p_lp_stop (p_pr1_Z s32 hb)); rw [eT]; exact ⟨⟨_, _, _, _, _, _, _, q41, q42, q43, q44, q45, q46, q47, h48, Im.o h49, Im.o h50⟩, (Or.inr ⟨by first | decide | omega, by omega⟩)⟩)⟩
def w_Reader_sum_q0_x : List Nat := [901, 902, 909, 910, 911, 912, 913, 914, 916, 918, 967]
set_option maxHeartbeats 100000000 in theorem tc_Reader_sum_q0_x {g : mj_G} {l : Launch} {d : Nat} {T0 : tm_H} {M0 : mj_M} {n0 x9 : Nat} {o0 : Nat} (h_o0 : T0 o0 = some (0, 9, 0)) {p : Int32} (hO : tm_at M0 o0 9 16 (.int p)) (hp : 4 ≤ p.toInt)  (hp2 : p.toInt ≤ 4) {pb : Nat → Int} {pn : Nat} {pa : Int} {ps : p_S} (yC : qC M0 o0 pb pn pa) (yD : qS M0 o0 pb pn ps) (yw : ps.1 = 0) (I0 : tm_I tm_FT (tm_in w_Reader_sum_q0_x) x9 T0 M0 n0 T0 M0 n0) : mj_Met g l kY_Reader_sum (d + 4) [.ref o0] M0 n0 0 0 (tm_Q tm_FT (tm_in w_Reader_sum_q0_x) x9 T0 M0 n0 (fun r _ M => ∃ v : Int32, r = some (.int v) ∧ 0 ≤ v.toInt ∧ v.toInt ≤ 1 ∧ (v.toInt = 1 → tm_at M o0 9 16 (.int p)) ∧ (qS M o0 pb pn (p_sum pb pn pa (p_op pb pn pa 0) ps)) ∧ (v.toInt = 1 ∧ (p_sum pb pn pa (p_op pb pn pa 0) ps).1 = 0 ∨ v.toInt = 0 ∧ (p_sum pb pn pa (p_op pb pn pa 0) ps).1 ≠ 0))) := by
  refine mj_enter (by decide) (Nat.le_of_ble_eq_true rfl) ?_
  have hK : ∀ {T : tm_H} {M : mj_M} {n : Nat}, tm_I tm_FT (tm_in w_Reader_sum_q0_x) x9 T0 M0 n0 T M n → qC M o0 pb pn pa := fun I => yC.keep I0.1 I h_o0 (qW_of (by decide +kernel))
  obtain ⟨v1, v2, v3, v4, v5, v6, v7, q8, q9, q10, q11, q12, q13, q14, h15, h16, h17⟩ := yD
  replace h16 := Im.i h16
  replace h17 := Im.i h17
  refine mv_aload_n d_Reader_sum_0 rfl rfl ?_
  obtain ⟨_, b24, -⟩ := I0.1 _ _ h_o0
  refine mv_callV (kc' := 0) (ks' := 0) (As := []) (st9 := [.ref o0]) d_Reader_sum_1 lV_Reader_218 b24 rfl (tc_Reader_product_q0_x (d := d) (x9 := x9) (o0 := o0) h_o0 (p := p) hO (by omega) (by first | omega | decide) (hK I0) ⟨_, _, _, _, _, _, _, q8, q9, q10, q11, q12, q13, q14, h15, Im.o h16, Im.o h17⟩ (by omega) I0.start) rfl (Nat.le_of_ble_eq_true rfl) (Nat.le_of_ble_eq_true rfl) (Nat.le_of_ble_eq_true rfl) (hst := rfl) (fun b18r M19 n20 b18 => ?_)
  obtain ⟨T21, J22, v25, rfl, b26, b27, o28, f29, f30⟩ := b18
  have I23 := I0.call J22 (tm_sub (by decide)) (Or.inl rfl)
  have t31 := J22.up h_o0
  obtain ⟨s32, e33⟩ : ∃ s9 : p_S, p_pro pb pn pa (p_op pb pn pa 0) ps = s9 := ⟨_, rfl⟩
  rw [e33] at f29 f30
  obtain ⟨v34, v35, v36, v37, v38, v39, v40, q41, q42, q43, q44, q45, q46, q47, h48, h49, h50⟩ := f29
  replace h49 := Im.i h49
  replace h50 := Im.i h50
  have := mz_hi v25
  refine mv_if_neZ (tgt := 9) (a := v25.toInt) d_Reader_sum_4 (by decide) rfl (fun b51 => ?_) (fun b51 => ?_)
  · have q52 := o28 (by omega)
    refine mv_iconst (v := 0) d_Reader_sum_9 (by decide) ?_
    refine mv_istore_n (lv' := [(1, .int 0), (0, .ref o0)]) d_Reader_sum_10 rfl (by decide) rfl ?_
    have L11_53 : ∀ (k : Nat) (i1_53 : Int32) (T_53 : tm_H) (M_53 : mj_M) (n_53 : Nat), tm_I tm_FT (tm_in w_Reader_sum_q0_x) x9 T0 M0 n0 T_53 M_53 n_53 → T_53 o0 = some (0, 9, 0) → 0 ≤ i1_53.toInt → tm_at M_53 o0 9 16 (.int p) → (∃ s1 : p_S, qS M_53 o0 pb pn s1 ∧ s1.1 = 0 ∧ i1_53.toInt ≤ (s1.2.2 : Int) ∧ p_lp pn (p_su1 pb pn pa (p_op pb pn pa 0)) s1 = p_sum pb pn pa (p_op pb pn pa 0) ps) → 2147483647 - i1_53.toInt < (k : Int) → mj_V g l kY_Reader_sum (d + 4) 11 [(1, .int i1_53), (0, .ref o0)] [] M_53 n_53 0 0 (tm_Q tm_FT (tm_in w_Reader_sum_q0_x) x9 T0 M0 n0 (fun r _ M => ∃ v : Int32, r = some (.int v) ∧ 0 ≤ v.toInt ∧ v.toInt ≤ 1 ∧ (v.toInt = 1 → tm_at M o0 9 16 (.int p)) ∧ (qS M o0 pb pn (p_sum pb pn pa (p_op pb pn pa 0) ps)) ∧ (v.toInt = 1 ∧ (p_sum pb pn pa (p_op pb pn pa 0) ps).1 = 0 ∨ v.toInt = 0 ∧ (p_sum pb pn pa (p_op pb pn pa 0) ps).1 ≠ 0))) := by
      intro k53
      induction k53 with
      | zero =>
        intro i1_53 T_53 M_53 n_53 I_53 h_q0_53 iv0_53 kp0_53 kKT9_53 hk53
        have := mz_hi i1_53
        omega
      | succ k53 ih53 =>
        intro i1_53 T_53 M_53 n_53 I_53 h_q0_53 iv0_53 kp0_53 kKT9_53 hk53
        obtain ⟨s54, f55, h56, h57, e58⟩ := kKT9_53
        obtain ⟨v59, v60, v61, v62, v63, v64, v65, q66, q67, q68, q69, q70, q71, q72, h73, h74, h75⟩ := f55
        replace h74 := Im.i h74
        replace h75 := Im.i h75
        refine mv_iload_n d_Reader_sum_11 rfl rfl ?_
        refine mv_sipush (v := 400) d_Reader_sum_12 (by decide) ?_
        have := mz_hi i1_53
        refine mv_icmp_geZ (tgt := 76) (a := i1_53.toInt) (b := 400) d_Reader_sum_15 (by decide) rfl (by decide) (fun b76 => ?_) (fun b76 => ?_)
        · refine mv_iconst (v := 1) d_Reader_sum_76 (by decide) ?_
          exact mv_iret d_Reader_sum_77 rfl (by decide) ⟨_, I_53, _, rfl, by decide, by decide, fun _ => kp0_53, (by have := (Im.o h75) (by omega); have := yC.d s54.2.2; have := yC.kn s54.2.2; have hX := e58.symm.trans (p_lp_stop (show (p_su1 pb pn pa (p_op pb pn pa 0)) s54 = s54 from if_neg (fun h9 => by omega))); have eT : p_sum pb pn pa (p_op pb pn pa 0) ps = s54 := (by exact hX); rw [eT]; exact ⟨⟨_, _, _, _, _, _, _, q66, q67, q68, q69, q70, q71, q72, h73, Im.o h74, Im.o h75⟩, (Or.inl ⟨by first | decide | omega, by omega⟩)⟩)⟩
        · refine mv_aload_n d_Reader_sum_18 rfl rfl ?_
          refine mv_bipush (v := 43) d_Reader_sum_19 (by decide) ?_
          obtain ⟨_, b77, -⟩ := I_53.1 _ _ h_q0_53
          refine mv_callV (kc1 := 0) (ks1 := 0) (kc' := 0) (ks' := 0) (As := [.int 43]) (st9 := [.int 43, .ref o0]) d_Reader_sum_21 lV_Reader_209 b77 rfl (mj_enter (by decide) (Nat.le_of_ble_eq_true rfl) ?_) rfl (Nat.le_of_ble_eq_true rfl) (Nat.le_of_ble_eq_true rfl) (Nat.le_of_ble_eq_true rfl) (hst := rfl) (fun _ _ _ h => h)
          refine mv_aload_n d_Reader_isSign_0 rfl rfl ?_
          refine tr_getK (k := 10) q69 d_Reader_isSign_1 f_Reader_41_9 ?_
          refine mv_iconst (v := 3) d_Reader_isSign_4 (by decide) ?_
          have := mz_hi v62
          refine mv_icmp_neZ (tgt := 20) (a := v62.toInt) (b := 3) d_Reader_isSign_5 (by decide) rfl (by decide) (fun b78 => ?_) (fun b78 => ?_)
          · refine mv_iconst (v := 0) d_Reader_isSign_20 (by decide) ?_
            refine mv_iret d_Reader_isSign_21 rfl (by decide) ?_
            refine mv_if_ne_f (tgt := 36) d_Reader_sum_24 (by decide) (by decide) ?_
            refine mv_aload_n d_Reader_sum_27 rfl rfl ?_
            refine mv_bipush (v := 45) d_Reader_sum_28 (by decide) ?_
            obtain ⟨_, b79, -⟩ := I_53.1 _ _ h_q0_53
            refine mv_callV (kc1 := 0) (ks1 := 0) (kc' := 0) (ks' := 0) (As := [.int 45]) (st9 := [.int 45, .ref o0]) d_Reader_sum_30 lV_Reader_209 b79 rfl (mj_enter (by decide) (Nat.le_of_ble_eq_true rfl) ?_) rfl (Nat.le_of_ble_eq_true rfl) (Nat.le_of_ble_eq_true rfl) (Nat.le_of_ble_eq_true rfl) (hst := rfl) (fun _ _ _ h => h)
            refine mv_aload_n d_Reader_isSign_0 rfl rfl ?_
            refine tr_getK (k := 10) q69 d_Reader_isSign_1 f_Reader_41_9 ?_
            refine mv_iconst (v := 3) d_Reader_isSign_4 (by decide) ?_
            have := mz_hi v62
            refine mv_icmp_neZ (tgt := 20) (a := v62.toInt) (b := 3) d_Reader_isSign_5 (by decide) rfl (by decide) (fun b80 => ?_) (fun b80 => absurd b80 (by omega))
            refine mv_iconst (v := 0) d_Reader_isSign_20 (by decide) ?_
            refine mv_iret d_Reader_isSign_21 rfl (by decide) ?_
            refine mv_if_eq_t (tgt := 76) d_Reader_sum_33 (by decide) (by decide) ?_
            refine mv_iconst (v := 1) d_Reader_sum_76 (by decide) ?_
            exact mv_iret d_Reader_sum_77 rfl (by decide) ⟨_, I_53, _, rfl, by decide, by decide, fun _ => kp0_53, (by have := (Im.o h75) (by omega); have := yC.d s54.2.2; have := yC.kn s54.2.2; have hX := e58.symm.trans (p_lp_stop (show (p_su1 pb pn pa (p_op pb pn pa 0)) s54 = s54 from if_neg (fun h9 => by omega))); have eT : p_sum pb pn pa (p_op pb pn pa 0) ps = s54 := (by exact hX); rw [eT]; exact ⟨⟨_, _, _, _, _, _, _, q66, q67, q68, q69, q70, q71, q72, h73, Im.o h74, Im.o h75⟩, (Or.inl ⟨by first | decide | omega, by omega⟩)⟩)⟩
          · refine mv_aload_n d_Reader_isSign_8 rfl rfl ?_
            refine tr_getK (k := 13) q72 d_Reader_isSign_9 f_Reader_241_9 ?_
            refine mv_iload_n d_Reader_isSign_12 rfl rfl ?_
            have := mz_hi v65
            refine mv_icmp_neZ (tgt := 20) (a := v65.toInt) (b := 43) d_Reader_isSign_13 (by decide) rfl (by decide) (fun b81 => ?_) (fun b81 => ?_)
            · refine mv_iconst (v := 0) d_Reader_isSign_20 (by decide) ?_
              refine mv_iret d_Reader_isSign_21 rfl (by decide) ?_
              refine mv_if_ne_f (tgt := 36) d_Reader_sum_24 (by decide) (by decide) ?_
              refine mv_aload_n d_Reader_sum_27 rfl rfl ?_
              refine mv_bipush (v := 45) d_Reader_sum_28 (by decide) ?_
              obtain ⟨_, b82, -⟩ := I_53.1 _ _ h_q0_53
              refine mv_callV (kc1 := 0) (ks1 := 0) (kc' := 0) (ks' := 0) (As := [.int 45]) (st9 := [.int 45, .ref o0]) d_Reader_sum_30 lV_Reader_209 b82 rfl (mj_enter (by decide) (Nat.le_of_ble_eq_true rfl) ?_) rfl (Nat.le_of_ble_eq_true rfl) (Nat.le_of_ble_eq_true rfl) (Nat.le_of_ble_eq_true rfl) (hst := rfl) (fun _ _ _ h => h)
              refine mv_aload_n d_Reader_isSign_0 rfl rfl ?_
              refine tr_getK (k := 10) q69 d_Reader_isSign_1 f_Reader_41_9 ?_
              refine mv_iconst (v := 3) d_Reader_isSign_4 (by decide) ?_
              have := mz_hi v62
              refine mv_icmp_neZ (tgt := 20) (a := v62.toInt) (b := 3) d_Reader_isSign_5 (by decide) rfl (by decide) (fun b83 => absurd b83 (by omega)) (fun b83 => ?_)
              refine mv_aload_n d_Reader_isSign_8 rfl rfl ?_
              refine tr_getK (k := 13) q72 d_Reader_isSign_9 f_Reader_241_9 ?_
              refine mv_iload_n d_Reader_isSign_12 rfl rfl ?_
              have := mz_hi v65
              refine mv_icmp_neZ (tgt := 20) (a := v65.toInt) (b := 45) d_Reader_isSign_13 (by decide) rfl (by decide) (fun b84 => ?_) (fun b84 => ?_)
              · refine mv_iconst (v := 0) d_Reader_isSign_20 (by decide) ?_
                refine mv_iret d_Reader_isSign_21 rfl (by decide) ?_
                refine mv_if_eq_t (tgt := 76) d_Reader_sum_33 (by decide) (by decide) ?_
                refine mv_iconst (v := 1) d_Reader_sum_76 (by decide) ?_
                exact mv_iret d_Reader_sum_77 rfl (by decide) ⟨_, I_53, _, rfl, by decide, by decide, fun _ => kp0_53, (by have := (Im.o h75) (by omega); have := yC.d s54.2.2; have := yC.kn s54.2.2; have hX := e58.symm.trans (p_lp_stop (show (p_su1 pb pn pa (p_op pb pn pa 0)) s54 = s54 from if_neg (fun h9 => by omega))); have eT : p_sum pb pn pa (p_op pb pn pa 0) ps = s54 := (by exact hX); rw [eT]; exact ⟨⟨_, _, _, _, _, _, _, q66, q67, q68, q69, q70, q71, q72, h73, Im.o h74, Im.o h75⟩, (Or.inl ⟨by first | decide | omega, by omega⟩)⟩)⟩
              · refine mv_iconst (v := 1) d_Reader_isSign_16 (by decide) ?_
                refine mv_goto (tgt := 21) d_Reader_isSign_17 (by decide) ?_
                refine mv_iret d_Reader_isSign_21 rfl (by decide) ?_
                refine mv_if_eq_f (tgt := 76) d_Reader_sum_33 (by decide) (by decide) ?_
                refine mv_aload_n d_Reader_sum_36 rfl rfl ?_
                refine mv_bipush (v := 43) d_Reader_sum_37 (by decide) ?_
                obtain ⟨_, b85, -⟩ := I_53.1 _ _ h_q0_53
                refine mv_callV (kc1 := 0) (ks1 := 0) (kc' := 0) (ks' := 0) (As := [.int 43]) (st9 := [.int 43, .ref o0]) d_Reader_sum_39 lV_Reader_209 b85 rfl (mj_enter (by decide) (Nat.le_of_ble_eq_true rfl) ?_) rfl (Nat.le_of_ble_eq_true rfl) (Nat.le_of_ble_eq_true rfl) (Nat.le_of_ble_eq_true rfl) (hst := rfl) (fun _ _ _ h => h)
                refine mv_aload_n d_Reader_isSign_0 rfl rfl ?_
                refine tr_getK (k := 10) q69 d_Reader_isSign_1 f_Reader_41_9 ?_
                refine mv_iconst (v := 3) d_Reader_isSign_4 (by decide) ?_
                have := mz_hi v62
                refine mv_icmp_neZ (tgt := 20) (a := v62.toInt) (b := 3) d_Reader_isSign_5 (by decide) rfl (by decide) (fun b86 => absurd b86 (by omega)) (fun b86 => ?_)
                refine mv_aload_n d_Reader_isSign_8 rfl rfl ?_
                refine tr_getK (k := 13) q72 d_Reader_isSign_9 f_Reader_241_9 ?_
                refine mv_iload_n d_Reader_isSign_12 rfl rfl ?_
                have := mz_hi v65
                refine mv_icmp_neZ (tgt := 20) (a := v65.toInt) (b := 43) d_Reader_isSign_13 (by decide) rfl (by decide) (fun b87 => ?_) (fun b87 => absurd b87 (by omega))
                refine mv_iconst (v := 0) d_Reader_isSign_20 (by decide) ?_
                refine mv_iret d_Reader_isSign_21 rfl (by decide) ?_
                refine mv_if_eq_t (tgt := 49) d_Reader_sum_42 (by decide) (by decide) ?_
                refine mv_iconst (v := 3) d_Reader_sum_49 (by decide) ?_
                refine mv_istore_n (lv' := [(2, .int 3), (1, .int i1_53), (0, .ref o0)]) d_Reader_sum_50 rfl (by decide) rfl ?_
                refine mv_aload_n d_Reader_sum_51 rfl rfl ?_
                obtain ⟨_, b94, -⟩ := I_53.1 _ _ h_q0_53
                refine mv_callV (kc' := 0) (ks' := 0) (As := []) (st9 := [.ref o0]) d_Reader_sum_52 lV_Reader_82 b94 rfl (tc_Reader_advance_x (d := (d + 3)) (x9 := x9) (o0 := o0) h_q0_53 (hK I_53) (qS.a (show qS M_53 o0 pb pn s54 from ⟨_, _, _, _, _, _, _, q66, q67, q68, q69, q70, q71, q72, h73, Im.o h74, Im.o h75⟩)) (by have := (Im.o h75) (by omega); have := yC.d s54.2.2; have := yC.kn s54.2.2; show s54.2.2 + 1 ≤ 401; omega) I_53.start) rfl (Nat.le_of_ble_eq_true rfl) (Nat.le_of_ble_eq_true rfl) (Nat.le_of_ble_eq_true rfl) (hst := rfl) (fun b88r M89 n90 b88 => ?_)
                obtain ⟨T91, J92, rfl, f95⟩ := b88
                have I93 := I_53.call J92 (tm_sub (by decide)) (Or.inl rfl)
                have t96 := J92.up h_q0_53
                have q97 := J92.keep h_q0_53 (by decide) kp0_53
                have q98 := J92.keep h_q0_53 (by decide) q66
                have q99 := J92.keep h_q0_53 (by decide) q67
                obtain ⟨s100, e101⟩ : ∃ s9 : p_S, p_nx s54 = s9 := ⟨_, rfl⟩
                rw [e101] at f95
                have : s100.1 = 0 := by rw [← e101]; show s54.1 = 0; omega
                obtain ⟨v102, v103, v104, v105, v106, v107, v108, q109, q110, q111, q112, q113, q114, q115, h116, h117, h118⟩ := f95
                replace h117 := Im.i h117
                replace h118 := Im.i h118
                refine mv_aload_n d_Reader_sum_55 rfl rfl ?_
                obtain ⟨_, b125, -⟩ := I93.1 _ _ t96
                refine mv_callV (kc' := 0) (ks' := 0) (As := []) (st9 := [.ref o0]) d_Reader_sum_56 lV_Reader_218 b125 rfl (tc_Reader_product_q0_x (d := d) (x9 := x9) (o0 := o0) t96 (p := p) q97 (by omega) (by first | omega | decide) (hK I93) ⟨_, _, _, _, _, _, _, q109, q110, q111, q112, q113, q114, q115, h116, Im.o h117, Im.o h118⟩ (by omega) I93.start) rfl (Nat.le_of_ble_eq_true rfl) (Nat.le_of_ble_eq_true rfl) (Nat.le_of_ble_eq_true rfl) (hst := rfl) (fun b119r M120 n121 b119 => ?_)
                obtain ⟨T122, J123, v126, rfl, b127, b128, o129, f130, f131⟩ := b119
                have I124 := I93.call J123 (tm_sub (by decide)) (Or.inl rfl)
                have t132 := J123.up t96
                obtain ⟨s133, e134⟩ : ∃ s9 : p_S, p_pro pb pn pa (p_op pb pn pa 0) s100 = s9 := ⟨_, rfl⟩
                rw [e134] at f130 f131
                obtain ⟨v135, v136, v137, v138, v139, v140, v141, q142, q143, q144, q145, q146, q147, q148, h149, h150, h151⟩ := f130
                replace h150 := Im.i h150
                replace h151 := Im.i h151
                have := mz_hi v126
                refine mv_if_neZ (tgt := 64) (a := v126.toInt) d_Reader_sum_59 (by decide) rfl (fun b152 => ?_) (fun b152 => ?_)
                · have q153 := o129 (by omega)
                  refine mv_aload_n d_Reader_sum_64 rfl rfl ?_
                  refine mv_iload_n d_Reader_sum_65 rfl rfl ?_
                  refine mv_iconst (v := 0) d_Reader_sum_66 (by decide) ?_
                  obtain ⟨_, b160, -⟩ := I124.1 _ _ t132
                  refine mv_callV (kc' := 0) (ks' := 0) (As := [.int 3, .int 0]) (st9 := [.int 0, .int 3, .ref o0]) d_Reader_sum_67 lV_Reader_203 b160 rfl (tc_Reader_emit (d := (d + 3)) (x9 := x9) (o0 := o0) (x1 := 3) (x2 := 0) t132 I124.start) rfl (Nat.le_of_ble_eq_true rfl) (Nat.le_of_ble_eq_true rfl) (Nat.le_of_ble_eq_true rfl) (hst := rfl) (fun b154r M155 n156 b154 => ?_)
                  obtain ⟨T157, J158, rfl⟩ := b154
                  have I159 := I124.call J158 (tm_sub (by decide)) (Or.inl rfl)
                  have t161 := J158.up t132
                  have q162 := J158.keep (I124.up h_o0) (by decide) q142
                  have q163 := J158.keep (I124.up h_o0) (by decide) q143
                  have q164 := J158.keep (I124.up h_o0) (by decide) q144
                  have q165 := J158.keep (I124.up h_o0) (by decide) q145
                  have q166 := J158.keep (I124.up h_o0) (by decide) q146
                  have q167 := J158.keep (I124.up h_o0) (by decide) q147
                  have q168 := J158.keep (I124.up h_o0) (by decide) q148
                  have q169 := J158.keep t132 (by decide) q153
                  refine mv_iinc (v := (i1_53 + 1)) (lv' := [(1, .int (i1_53 + 1)), (2, .int 3), (0, .ref o0)]) d_Reader_sum_70 rfl rfl (by decide) rfl ?_
                  refine mv_goto (tgt := 11) d_Reader_sum_73 (by decide) ?_
                  have : (i1_53 + 1 : Int32).toInt = i1_53.toInt + 1 := mz_addn 1 1 (by decide) (by omega) (by omega)
                  have T170 : ∃ s1 : p_S, qS M155 o0 pb pn s1 ∧ s1.1 = 0 ∧ (i1_53 + 1).toInt ≤ (s1.2.2 : Int) ∧ p_lp pn (p_su1 pb pn pa (p_op pb pn pa 0)) s1 = p_sum pb pn pa (p_op pb pn pa 0) ps := ⟨s133, ⟨_, _, _, _, _, _, _, q162, q163, q164, q165, q166, q167, q168, h149, Im.o h150, Im.o h151⟩, by omega, (by have h9 : s54.2.2 + 1 ≤ s133.2.2 := (by rw [← e134, ← e101]; exact p_pro_M (p_op_M _) (p_nx s54)); omega), (by have := (Im.o h75) (by omega); have := yC.d s54.2.2; have := yC.kn s54.2.2; have st : (p_su1 pb pn pa (p_op pb pn pa 0)) s54 = s133 := (by rw [show (p_su1 pb pn pa (p_op pb pn pa 0)) s54 = p_pro pb pn pa (p_op pb pn pa 0) (p_nx s54) from if_pos ⟨by omega, by omega⟩]; simp only [e101, e134]); rw [← st, p_P.go (p_su1_P (p_op_M _)) s54]; exact e58)⟩
                  refine mv_locals (lv' := [(1, .int (i1_53 + 1)), (0, .ref o0)]) (by intro q hq; simp only [List.mem_cons, List.not_mem_nil, or_false] at hq; rcases hq with rfl | rfl <;> rfl) ?_
                  have b171 : (i1_53 + 1).toInt = i1_53.toInt + 1 := mz_addn 1 1 (by decide) (by have := mz_lo i1_53; omega) (by have := mz_hi i1_53; omega)
                  exact (ih53 (i1_53 + 1) T157 M155 n156 I159 t161 (by first | omega | decide) q169 T170 (by omega))
                · refine mv_iconst (v := 0) d_Reader_sum_62 (by decide) ?_
                  exact mv_iret d_Reader_sum_63 rfl (by decide) ⟨_, I124, _, rfl, by decide, by decide, fun h => absurd h (by decide), (by have := (Im.o h75) (by omega); have := yC.d s54.2.2; have := yC.kn s54.2.2; have hb : s133.1 ≠ 0 := (by omega); have z1 : ∀ c, p_sg pb pn c s133 = s133 := (fun c => p_sg_Z s133 hb); have z2 : ∀ c, p_wd pb pn c s133 = s133 := (fun c => p_wd_Z s133 hb); have z3 : ∀ op, p_sum pb pn pa op s133 = s133 := (fun op => p_sum_Z s133 hb); have z4 : ∀ r oc, p_con pb pn pa r oc s133 = s133 := (fun r oc => p_con_Z s133 hb); have z5 : p_prt pb pn s133 = s133 := p_prt_Z s133 hb; have st : (p_su1 pb pn pa (p_op pb pn pa 0)) s54 = s133 := (by rw [show (p_su1 pb pn pa (p_op pb pn pa 0)) s54 = p_pro pb pn pa (p_op pb pn pa 0) (p_nx s54) from if_pos ⟨by omega, by omega⟩]; simp only [e101, e134]); have eT : p_sum pb pn pa (p_op pb pn pa 0) ps = s133 := (by rw [← e58, ← p_P.go (p_su1_P (p_op_M _)) s54, st]; exact p_lp_stop (p_su1_Z s133 hb)); rw [eT]; exact ⟨⟨_, _, _, _, _, _, _, q142, q143, q144, q145, q146, q147, q148, h149, Im.o h150, Im.o h151⟩, (Or.inr ⟨by first | decide | omega, by omega⟩)⟩)⟩
            · refine mv_iconst (v := 1) d_Reader_isSign_16 (by decide) ?_
              refine mv_goto (tgt := 21) d_Reader_isSign_17 (by decide) ?_
              refine mv_iret d_Reader_isSign_21 rfl (by decide) ?_
              refine mv_if_ne_t (tgt := 36) d_Reader_sum_24 (by decide) (by decide) ?_
              refine mv_aload_n d_Reader_sum_36 rfl rfl ?_
              refine mv_bipush (v := 43) d_Reader_sum_37 (by decide) ?_
              obtain ⟨_, b172, -⟩ := I_53.1 _ _ h_q0_53
              refine mv_callV (kc1 := 0) (ks1 := 0) (kc' := 0) (ks' := 0) (As := [.int 43]) (st9 := [.int 43, .ref o0]) d_Reader_sum_39 lV_Reader_209 b172 rfl (mj_enter (by decide) (Nat.le_of_ble_eq_true rfl) ?_) rfl (Nat.le_of_ble_eq_true rfl) (Nat.le_of_ble_eq_true rfl) (Nat.le_of_ble_eq_true rfl) (hst := rfl) (fun _ _ _ h => h)
              refine mv_aload_n d_Reader_isSign_0 rfl rfl ?_
              refine tr_getK (k := 10) q69 d_Reader_isSign_1 f_Reader_41_9 ?_
              refine mv_iconst (v := 3) d_Reader_isSign_4 (by decide) ?_
              have := mz_hi v62
              refine mv_icmp_neZ (tgt := 20) (a := v62.toInt) (b := 3) d_Reader_isSign_5 (by decide) rfl (by decide) (fun b173 => absurd b173 (by omega)) (fun b173 => ?_)
              refine mv_aload_n d_Reader_isSign_8 rfl rfl ?_
              refine tr_getK (k := 13) q72 d_Reader_isSign_9 f_Reader_241_9 ?_
              refine mv_iload_n d_Reader_isSign_12 rfl rfl ?_
              have := mz_hi v65
              refine mv_icmp_neZ (tgt := 20) (a := v65.toInt) (b := 43) d_Reader_isSign_13 (by decide) rfl (by decide) (fun b174 => absurd b174 (by omega)) (fun b174 => ?_)
              refine mv_iconst (v := 1) d_Reader_isSign_16 (by decide) ?_
              refine mv_goto (tgt := 21) d_Reader_isSign_17 (by decide) ?_
              refine mv_iret d_Reader_isSign_21 rfl (by decide) ?_
              refine mv_if_eq_f (tgt := 49) d_Reader_sum_42 (by decide) (by decide) ?_
              refine mv_iconst (v := 2) d_Reader_sum_45 (by decide) ?_
              refine mv_goto (tgt := 50) d_Reader_sum_46 (by decide) ?_
              refine mv_istore_n (lv' := [(2, .int 2), (1, .int i1_53), (0, .ref o0)]) d_Reader_sum_50 rfl (by decide) rfl ?_
              refine mv_aload_n d_Reader_sum_51 rfl rfl ?_
              obtain ⟨_, b181, -⟩ := I_53.1 _ _ h_q0_53
              refine mv_callV (kc' := 0) (ks' := 0) (As := []) (st9 := [.ref o0]) d_Reader_sum_52 lV_Reader_82 b181 rfl (tc_Reader_advance_x (d := (d + 3)) (x9 := x9) (o0 := o0) h_q0_53 (hK I_53) (qS.a (show qS M_53 o0 pb pn s54 from ⟨_, _, _, _, _, _, _, q66, q67, q68, q69, q70, q71, q72, h73, Im.o h74, Im.o h75⟩)) (by have := (Im.o h75) (by omega); have := yC.d s54.2.2; have := yC.kn s54.2.2; show s54.2.2 + 1 ≤ 401; omega) I_53.start) rfl (Nat.le_of_ble_eq_true rfl) (Nat.le_of_ble_eq_true rfl) (Nat.le_of_ble_eq_true rfl) (hst := rfl) (fun b175r M176 n177 b175 => ?_)
              obtain ⟨T178, J179, rfl, f182⟩ := b175
              have I180 := I_53.call J179 (tm_sub (by decide)) (Or.inl rfl)
              have t183 := J179.up h_q0_53
              have q184 := J179.keep h_q0_53 (by decide) kp0_53
              have q185 := J179.keep h_q0_53 (by decide) q66
              have q186 := J179.keep h_q0_53 (by decide) q67
              obtain ⟨s187, e188⟩ : ∃ s9 : p_S, p_nx s54 = s9 := ⟨_, rfl⟩
              rw [e188] at f182
              have : s187.1 = 0 := by rw [← e188]; show s54.1 = 0; omega
              obtain ⟨v189, v190, v191, v192, v193, v194, v195, q196, q197, q198, q199, q200, q201, q202, h203, h204, h205⟩ := f182
              replace h204 := Im.i h204
              replace h205 := Im.i h205
              refine mv_aload_n d_Reader_sum_55 rfl rfl ?_
              obtain ⟨_, b212, -⟩ := I180.1 _ _ t183
              refine mv_callV (kc' := 0) (ks' := 0) (As := []) (st9 := [.ref o0]) d_Reader_sum_56 lV_Reader_218 b212 rfl (tc_Reader_product_q0_x (d := d) (x9 := x9) (o0 := o0) t183 (p := p) q184 (by omega) (by first | omega | decide) (hK I180) ⟨_, _, _, _, _, _, _, q196, q197, q198, q199, q200, q201, q202, h203, Im.o h204, Im.o h205⟩ (by omega) I180.start) rfl (Nat.le_of_ble_eq_true rfl) (Nat.le_of_ble_eq_true rfl) (Nat.le_of_ble_eq_true rfl) (hst := rfl) (fun b206r M207 n208 b206 => ?_)
              obtain ⟨T209, J210, v213, rfl, b214, b215, o216, f217, f218⟩ := b206
              have I211 := I180.call J210 (tm_sub (by decide)) (Or.inl rfl)
              have t219 := J210.up t183
              obtain ⟨s220, e221⟩ : ∃ s9 : p_S, p_pro pb pn pa (p_op pb pn pa 0) s187 = s9 := ⟨_, rfl⟩
              rw [e221] at f217 f218
              obtain ⟨v222, v223, v224, v225, v226, v227, v228, q229, q230, q231, q232, q233, q234, q235, h236, h237, h238⟩ := f217
              replace h237 := Im.i h237
              replace h238 := Im.i h238
              have := mz_hi v213
              refine mv_if_neZ (tgt := 64) (a := v213.toInt) d_Reader_sum_59 (by decide) rfl (fun b239 => ?_) (fun b239 => ?_)
              · have q240 := o216 (by omega)
                refine mv_aload_n d_Reader_sum_64 rfl rfl ?_
                refine mv_iload_n d_Reader_sum_65 rfl rfl ?_
                refine mv_iconst (v := 0) d_Reader_sum_66 (by decide) ?_
                obtain ⟨_, b247, -⟩ := I211.1 _ _ t219
                refine mv_callV (kc' := 0) (ks' := 0) (As := [.int 2, .int 0]) (st9 := [.int 0, .int 2, .ref o0]) d_Reader_sum_67 lV_Reader_203 b247 rfl (tc_Reader_emit (d := (d + 3)) (x9 := x9) (o0 := o0) (x1 := 2) (x2 := 0) t219 I211.start) rfl (Nat.le_of_ble_eq_true rfl) (Nat.le_of_ble_eq_true rfl) (Nat.le_of_ble_eq_true rfl) (hst := rfl) (fun b241r M242 n243 b241 => ?_)
                obtain ⟨T244, J245, rfl⟩ := b241
                have I246 := I211.call J245 (tm_sub (by decide)) (Or.inl rfl)
                have t248 := J245.up t219
                have q249 := J245.keep (I211.up h_o0) (by decide) q229
                have q250 := J245.keep (I211.up h_o0) (by decide) q230
                have q251 := J245.keep (I211.up h_o0) (by decide) q231
                have q252 := J245.keep (I211.up h_o0) (by decide) q232
                have q253 := J245.keep (I211.up h_o0) (by decide) q233
                have q254 := J245.keep (I211.up h_o0) (by decide) q234
                have q255 := J245.keep (I211.up h_o0) (by decide) q235
                have q256 := J245.keep t219 (by decide) q240
                refine mv_iinc (v := (i1_53 + 1)) (lv' := [(1, .int (i1_53 + 1)), (2, .int 2), (0, .ref o0)]) d_Reader_sum_70 rfl rfl (by decide) rfl ?_
                refine mv_goto (tgt := 11) d_Reader_sum_73 (by decide) ?_
                have : (i1_53 + 1 : Int32).toInt = i1_53.toInt + 1 := mz_addn 1 1 (by decide) (by omega) (by omega)
                have T257 : ∃ s1 : p_S, qS M242 o0 pb pn s1 ∧ s1.1 = 0 ∧ (i1_53 + 1).toInt ≤ (s1.2.2 : Int) ∧ p_lp pn (p_su1 pb pn pa (p_op pb pn pa 0)) s1 = p_sum pb pn pa (p_op pb pn pa 0) ps := ⟨s220, ⟨_, _, _, _, _, _, _, q249, q250, q251, q252, q253, q254, q255, h236, Im.o h237, Im.o h238⟩, by omega, (by have h9 : s54.2.2 + 1 ≤ s220.2.2 := (by rw [← e221, ← e188]; exact p_pro_M (p_op_M _) (p_nx s54)); omega), (by have := (Im.o h75) (by omega); have := yC.d s54.2.2; have := yC.kn s54.2.2; have st : (p_su1 pb pn pa (p_op pb pn pa 0)) s54 = s220 := (by rw [show (p_su1 pb pn pa (p_op pb pn pa 0)) s54 = p_pro pb pn pa (p_op pb pn pa 0) (p_nx s54) from if_pos ⟨by omega, by omega⟩]; simp only [e188, e221]); rw [← st, p_P.go (p_su1_P (p_op_M _)) s54]; exact e58)⟩
                refine mv_locals (lv' := [(1, .int (i1_53 + 1)), (0, .ref o0)]) (by intro q hq; simp only [List.mem_cons, List.not_mem_nil, or_false] at hq; rcases hq with rfl | rfl <;> rfl) ?_
                have b258 : (i1_53 + 1).toInt = i1_53.toInt + 1 := mz_addn 1 1 (by decide) (by have := mz_lo i1_53; omega) (by have := mz_hi i1_53; omega)
                exact (ih53 (i1_53 + 1) T244 M242 n243 I246 t248 (by first | omega | decide) q256 T257 (by omega))
              · refine mv_iconst (v := 0) d_Reader_sum_62 (by decide) ?_
                exact mv_iret d_Reader_sum_63 rfl (by decide) ⟨_, I211, _, rfl, by decide, by decide, fun h => absurd h (by decide), (by have := (Im.o h75) (by omega); have := yC.d s54.2.2; have := yC.kn s54.2.2; have hb : s220.1 ≠ 0 := (by omega); have z1 : ∀ c, p_sg pb pn c s220 = s220 := (fun c => p_sg_Z s220 hb); have z2 : ∀ c, p_wd pb pn c s220 = s220 := (fun c => p_wd_Z s220 hb); have z3 : ∀ op, p_sum pb pn pa op s220 = s220 := (fun op => p_sum_Z s220 hb); have z4 : ∀ r oc, p_con pb pn pa r oc s220 = s220 := (fun r oc => p_con_Z s220 hb); have z5 : p_prt pb pn s220 = s220 := p_prt_Z s220 hb; have st : (p_su1 pb pn pa (p_op pb pn pa 0)) s54 = s220 := (by rw [show (p_su1 pb pn pa (p_op pb pn pa 0)) s54 = p_pro pb pn pa (p_op pb pn pa 0) (p_nx s54) from if_pos ⟨by omega, by omega⟩]; simp only [e188, e221]); have eT : p_sum pb pn pa (p_op pb pn pa 0) ps = s220 := (by rw [← e58, ← p_P.go (p_su1_P (p_op_M _)) s54, st]; exact p_lp_stop (p_su1_Z s220 hb)); rw [eT]; exact ⟨⟨_, _, _, _, _, _, _, q229, q230, q231, q232, q233, q234, q235, h236, Im.o h237, Im.o h238⟩, (Or.inr ⟨by first | decide | omega, by omega⟩)⟩)⟩
    have T259 : ∃ s1 : p_S, qS M19 o0 pb pn s1 ∧ s1.1 = 0 ∧ 0 ≤ (s1.2.2 : Int) ∧ p_lp pn (p_su1 pb pn pa (p_op pb pn pa 0)) s1 = p_sum pb pn pa (p_op pb pn pa 0) ps := ⟨s32, ⟨_, _, _, _, _, _, _, q41, q42, q43, q44, q45, q46, q47, h48, Im.o h49, Im.o h50⟩, by omega, (by show (0 : Int) ≤ _; omega), (by rw [← e33]; rfl)⟩
    exact mv_less (Nat.zero_le _) (Nat.zero_le _) (L11_53 4294967296 0 T21 M19 n20 I23 t31 (by first | omega | decide) q52 T259 (by show (2147483647 - (0 : Int) : Int) < _; decide))
  · refine mv_iconst (v := 0) d_Reader_sum_7 (by decide) ?_
    exact mv_iret d_Reader_sum_8 rfl (by decide) ⟨_, I23, _, rfl, by decide, by decide, fun h => absurd h (by decide), (by have hb : s32.1 ≠ 0 := (by omega); have z1 : ∀ c, p_sg pb pn c s32 = s32 := (fun c => p_sg_Z s32 hb); have z2 : ∀ c, p_wd pb pn c s32 = s32 := (fun c => p_wd_Z s32 hb); have z3 : ∀ op, p_sum pb pn pa op s32 = s32 := (fun op => p_sum_Z s32 hb); have z4 : ∀ r oc, p_con pb pn pa r oc s32 = s32 := (fun r oc => p_con_Z s32 hb); have z5 : p_prt pb pn s32 = s32 := p_prt_Z s32 hb; have eT : p_sum pb pn pa (p_op pb pn pa 0) ps = s32 := (by unfold p_sum; simp only [e33]; exact p_lp_stop (p_su1_Z s32 hb)); rw [eT]; exact ⟨⟨_, _, _, _, _, _, _, q41, q42, q43, q44, q45, q46, q47, h48, Im.o h49, Im.o h50⟩, (Or.inr ⟨by first | decide | omega, by omega⟩)⟩)⟩
